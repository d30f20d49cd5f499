section
def lw_okq (q : MethodName × Nat) : Prop := (q.1.cls ≠ "java/lang/invoke/MethodHandle" ∧ q.1.cls ≠ "java/lang/invoke/VarHandle") ∧ Cond.instantiable q.1.cls q.2 ∈ tables_1 ∧ Cond.privateMethod q.1 ∈ tables_1 ∧ Cond.instanceMethod q.1 ∈ tables_1
theorem lw_p0 : lw_okq (⟨"java/lang/Throwable", "fillInStackTrace", "(I)Ljava/lang/Throwable;"⟩, 6) := ⟨⟨by decide +kernel, by decide +kernel⟩, List.mem_of_getElem? (i := 160) (by decide +kernel), List.mem_of_getElem? (i := 158) (by decide +kernel), List.mem_of_getElem? (i := 159) (by decide +kernel)⟩
theorem lw_p1 : lw_okq (⟨"PatchDesk", "isInUse", "()Z"⟩, 5) := ⟨⟨by decide +kernel, by decide +kernel⟩, List.mem_of_getElem? (i := 25) (by decide +kernel), List.mem_of_getElem? (i := 190) (by decide +kernel), List.mem_of_getElem? (i := 191) (by decide +kernel)⟩
theorem lw_p2 : lw_okq (⟨"java/util/ArrayList", "add", "(Ljava/lang/Object;[Ljava/lang/Object;I)V"⟩, 3) := ⟨⟨by decide +kernel, by decide +kernel⟩, List.mem_of_getElem? (i := 33) (by decide +kernel), List.mem_of_getElem? (i := 253) (by decide +kernel), List.mem_of_getElem? (i := 254) (by decide +kernel)⟩
theorem lw_p3 : lw_okq (⟨"java/util/ArrayList", "grow", "()[Ljava/lang/Object;"⟩, 3) := ⟨⟨by decide +kernel, by decide +kernel⟩, List.mem_of_getElem? (i := 33) (by decide +kernel), List.mem_of_getElem? (i := 257) (by decide +kernel), List.mem_of_getElem? (i := 258) (by decide +kernel)⟩
theorem lw_p4 : lw_okq (⟨"java/util/ArrayList", "grow", "(I)[Ljava/lang/Object;"⟩, 3) := ⟨⟨by decide +kernel, by decide +kernel⟩, List.mem_of_getElem? (i := 33) (by decide +kernel), List.mem_of_getElem? (i := 261) (by decide +kernel), List.mem_of_getElem? (i := 262) (by decide +kernel)⟩
theorem lw_p5 : lw_okq (⟨"PatchDesk", "isFunction", "(I)Z"⟩, 5) := ⟨⟨by decide +kernel, by decide +kernel⟩, List.mem_of_getElem? (i := 25) (by decide +kernel), List.mem_of_getElem? (i := 315) (by decide +kernel), List.mem_of_getElem? (i := 316) (by decide +kernel)⟩
theorem lw_p6 : lw_okq (⟨"PatchDesk", "isOperation", "(III)Z"⟩, 5) := ⟨⟨by decide +kernel, by decide +kernel⟩, List.mem_of_getElem? (i := 25) (by decide +kernel), List.mem_of_getElem? (i := 338) (by decide +kernel), List.mem_of_getElem? (i := 339) (by decide +kernel)⟩
theorem lw_p7 : lw_okq (⟨"PatchDesk", "keepsSignatures", "(LPatchDesk$Patch;)Z"⟩, 5) := ⟨⟨by decide +kernel, by decide +kernel⟩, List.mem_of_getElem? (i := 25) (by decide +kernel), List.mem_of_getElem? (i := 374) (by decide +kernel), List.mem_of_getElem? (i := 375) (by decide +kernel)⟩
theorem lw_p8 : lw_okq (⟨"PatchDesk", "headFor", "(I)V"⟩, 5) := ⟨⟨by decide +kernel, by decide +kernel⟩, List.mem_of_getElem? (i := 25) (by decide +kernel), List.mem_of_getElem? (i := 395) (by decide +kernel), List.mem_of_getElem? (i := 396) (by decide +kernel)⟩
theorem lw_p9 : lw_okq (⟨"PatchDesk", "endTransitionWhenAllAreOver", "()V"⟩, 5) := ⟨⟨by decide +kernel, by decide +kernel⟩, List.mem_of_getElem? (i := 25) (by decide +kernel), List.mem_of_getElem? (i := 399) (by decide +kernel), List.mem_of_getElem? (i := 400) (by decide +kernel)⟩
theorem lw_p10 : lw_okq (⟨"java/util/ArrayList", "fastRemove", "([Ljava/lang/Object;I)V"⟩, 3) := ⟨⟨by decide +kernel, by decide +kernel⟩, List.mem_of_getElem? (i := 33) (by decide +kernel), List.mem_of_getElem? (i := 408) (by decide +kernel), List.mem_of_getElem? (i := 409) (by decide +kernel)⟩
theorem lw_p11 : lw_okq (⟨"PatchDesk", "bodyAt", "(II)LPatchDesk$Body;"⟩, 5) := ⟨⟨by decide +kernel, by decide +kernel⟩, List.mem_of_getElem? (i := 25) (by decide +kernel), List.mem_of_getElem? (i := 431) (by decide +kernel), List.mem_of_getElem? (i := 432) (by decide +kernel)⟩
theorem lw_p12 : lw_okq (⟨"PatchDesk", "isTask", "(I)Z"⟩, 5) := ⟨⟨by decide +kernel, by decide +kernel⟩, List.mem_of_getElem? (i := 25) (by decide +kernel), List.mem_of_getElem? (i := 504) (by decide +kernel), List.mem_of_getElem? (i := 505) (by decide +kernel)⟩
theorem lw_p13 : lw_okq (⟨"PatchDesk", "canGoOver", "(LPatchDesk$Task;)Z"⟩, 5) := ⟨⟨by decide +kernel, by decide +kernel⟩, List.mem_of_getElem? (i := 25) (by decide +kernel), List.mem_of_getElem? (i := 509) (by decide +kernel), List.mem_of_getElem? (i := 510) (by decide +kernel)⟩
theorem lw_p14 : lw_okq (⟨"PatchDesk", "hasPatchedFrame", "(LPatchDesk$Task;)Z"⟩, 5) := ⟨⟨by decide +kernel, by decide +kernel⟩, List.mem_of_getElem? (i := 25) (by decide +kernel), List.mem_of_getElem? (i := 521) (by decide +kernel), List.mem_of_getElem? (i := 522) (by decide +kernel)⟩
theorem lw_p15 : lw_okq (⟨"PatchDesk", "isInLatestPatch", "(I)Z"⟩, 5) := ⟨⟨by decide +kernel, by decide +kernel⟩, List.mem_of_getElem? (i := 25) (by decide +kernel), List.mem_of_getElem? (i := 525) (by decide +kernel), List.mem_of_getElem? (i := 526) (by decide +kernel)⟩
def lw_privs_1 : List (MethodName × Nat) := [(⟨"java/lang/Throwable", "fillInStackTrace", "(I)Ljava/lang/Throwable;"⟩, 6), (⟨"PatchDesk", "isInUse", "()Z"⟩, 5), (⟨"java/util/ArrayList", "add", "(Ljava/lang/Object;[Ljava/lang/Object;I)V"⟩, 3), (⟨"java/util/ArrayList", "grow", "()[Ljava/lang/Object;"⟩, 3), (⟨"java/util/ArrayList", "grow", "(I)[Ljava/lang/Object;"⟩, 3), (⟨"PatchDesk", "isFunction", "(I)Z"⟩, 5), (⟨"PatchDesk", "isOperation", "(III)Z"⟩, 5), (⟨"PatchDesk", "keepsSignatures", "(LPatchDesk$Patch;)Z"⟩, 5), (⟨"PatchDesk", "headFor", "(I)V"⟩, 5), (⟨"PatchDesk", "endTransitionWhenAllAreOver", "()V"⟩, 5), (⟨"java/util/ArrayList", "fastRemove", "([Ljava/lang/Object;I)V"⟩, 3), (⟨"PatchDesk", "bodyAt", "(II)LPatchDesk$Body;"⟩, 5), (⟨"PatchDesk", "isTask", "(I)Z"⟩, 5), (⟨"PatchDesk", "canGoOver", "(LPatchDesk$Task;)Z"⟩, 5), (⟨"PatchDesk", "hasPatchedFrame", "(LPatchDesk$Task;)Z"⟩, 5), (⟨"PatchDesk", "isInLatestPatch", "(I)Z"⟩, 5)]
theorem lw_r1 : ∀ q ∈ lw_privs_1, lw_okq q := List.forall_mem_cons.mpr ⟨lw_p0, List.forall_mem_cons.mpr ⟨lw_p1, List.forall_mem_cons.mpr ⟨lw_p2, List.forall_mem_cons.mpr ⟨lw_p3, List.forall_mem_cons.mpr ⟨lw_p4, List.forall_mem_cons.mpr ⟨lw_p5, List.forall_mem_cons.mpr ⟨lw_p6, List.forall_mem_cons.mpr ⟨lw_p7, List.forall_mem_cons.mpr ⟨lw_p8, List.forall_mem_cons.mpr ⟨lw_p9, List.forall_mem_cons.mpr ⟨lw_p10, List.forall_mem_cons.mpr ⟨lw_p11, List.forall_mem_cons.mpr ⟨lw_p12, List.forall_mem_cons.mpr ⟨lw_p13, List.forall_mem_cons.mpr ⟨lw_p14, List.forall_mem_cons.mpr ⟨lw_p15, fun _ h => absurd h List.not_mem_nil⟩⟩⟩⟩⟩⟩⟩⟩⟩⟩⟩⟩⟩⟩⟩⟩
theorem lw_p16 : lw_okq (⟨"PatchDesk", "stepOnce", "(LPatchDesk$Task;)V"⟩, 5) := ⟨⟨by decide +kernel, by decide +kernel⟩, List.mem_of_getElem? (i := 25) (by decide +kernel), List.mem_of_getElem? (i := 529) (by decide +kernel), List.mem_of_getElem? (i := 530) (by decide +kernel)⟩
theorem lw_p17 : lw_okq (⟨"PatchDesk", "leaveTopFrame", "(LPatchDesk$Task;)V"⟩, 5) := ⟨⟨by decide +kernel, by decide +kernel⟩, List.mem_of_getElem? (i := 25) (by decide +kernel), List.mem_of_getElem? (i := 533) (by decide +kernel), List.mem_of_getElem? (i := 534) (by decide +kernel)⟩
theorem lw_p18 : lw_okq (⟨"PatchDesk", "enter", "(LPatchDesk$Task;I)V"⟩, 5) := ⟨⟨by decide +kernel, by decide +kernel⟩, List.mem_of_getElem? (i := 25) (by decide +kernel), List.mem_of_getElem? (i := 542) (by decide +kernel), List.mem_of_getElem? (i := 543) (by decide +kernel)⟩
theorem lw_p19 : lw_okq (⟨"PatchDeskModel", "fresh", "()Z"⟩, 22) := ⟨⟨by decide +kernel, by decide +kernel⟩, List.mem_of_getElem? (i := 594) (by decide +kernel), List.mem_of_getElem? (i := 679) (by decide +kernel), List.mem_of_getElem? (i := 680) (by decide +kernel)⟩
theorem lw_p20 : lw_okq (⟨"PatchDeskModel", "takeBody", "(II)V"⟩, 22) := ⟨⟨by decide +kernel, by decide +kernel⟩, List.mem_of_getElem? (i := 594) (by decide +kernel), List.mem_of_getElem? (i := 695) (by decide +kernel), List.mem_of_getElem? (i := 696) (by decide +kernel)⟩
theorem lw_p21 : lw_okq (⟨"PatchDeskModel", "settle", "()V"⟩, 22) := ⟨⟨by decide +kernel, by decide +kernel⟩, List.mem_of_getElem? (i := 594) (by decide +kernel), List.mem_of_getElem? (i := 699) (by decide +kernel), List.mem_of_getElem? (i := 700) (by decide +kernel)⟩
theorem lw_p22 : lw_okq (⟨"PatchDeskModel", "enter", "(II)V"⟩, 22) := ⟨⟨by decide +kernel, by decide +kernel⟩, List.mem_of_getElem? (i := 594) (by decide +kernel), List.mem_of_getElem? (i := 711) (by decide +kernel), List.mem_of_getElem? (i := 712) (by decide +kernel)⟩
theorem lw_p23 : lw_okq (⟨"PatchDeskModel", "bodyRow", "(II)I"⟩, 22) := ⟨⟨by decide +kernel, by decide +kernel⟩, List.mem_of_getElem? (i := 594) (by decide +kernel), List.mem_of_getElem? (i := 715) (by decide +kernel), List.mem_of_getElem? (i := 716) (by decide +kernel)⟩
theorem lw_p24 : lw_okq (⟨"PatchDeskModel", "goes", "(I)Z"⟩, 22) := ⟨⟨by decide +kernel, by decide +kernel⟩, List.mem_of_getElem? (i := 594) (by decide +kernel), List.mem_of_getElem? (i := 723) (by decide +kernel), List.mem_of_getElem? (i := 724) (by decide +kernel)⟩
theorem lw_p25 : lw_okq (⟨"PatchDeskModel", "stepOnce", "(I)V"⟩, 22) := ⟨⟨by decide +kernel, by decide +kernel⟩, List.mem_of_getElem? (i := 594) (by decide +kernel), List.mem_of_getElem? (i := 727) (by decide +kernel), List.mem_of_getElem? (i := 728) (by decide +kernel)⟩
theorem lw_p26 : lw_okq (⟨"PatchDeskModel", "fail", "(I)I"⟩, 22) := ⟨⟨by decide +kernel, by decide +kernel⟩, List.mem_of_getElem? (i := 594) (by decide +kernel), List.mem_of_getElem? (i := 735) (by decide +kernel), List.mem_of_getElem? (i := 736) (by decide +kernel)⟩
def lw_privs_2 : List (MethodName × Nat) := [(⟨"PatchDesk", "stepOnce", "(LPatchDesk$Task;)V"⟩, 5), (⟨"PatchDesk", "leaveTopFrame", "(LPatchDesk$Task;)V"⟩, 5), (⟨"PatchDesk", "enter", "(LPatchDesk$Task;I)V"⟩, 5), (⟨"PatchDeskModel", "fresh", "()Z"⟩, 22), (⟨"PatchDeskModel", "takeBody", "(II)V"⟩, 22), (⟨"PatchDeskModel", "settle", "()V"⟩, 22), (⟨"PatchDeskModel", "enter", "(II)V"⟩, 22), (⟨"PatchDeskModel", "bodyRow", "(II)I"⟩, 22), (⟨"PatchDeskModel", "goes", "(I)Z"⟩, 22), (⟨"PatchDeskModel", "stepOnce", "(I)V"⟩, 22), (⟨"PatchDeskModel", "fail", "(I)I"⟩, 22)]
theorem lw_r2 : ∀ q ∈ lw_privs_2, lw_okq q := List.forall_mem_cons.mpr ⟨lw_p16, List.forall_mem_cons.mpr ⟨lw_p17, List.forall_mem_cons.mpr ⟨lw_p18, List.forall_mem_cons.mpr ⟨lw_p19, List.forall_mem_cons.mpr ⟨lw_p20, List.forall_mem_cons.mpr ⟨lw_p21, List.forall_mem_cons.mpr ⟨lw_p22, List.forall_mem_cons.mpr ⟨lw_p23, List.forall_mem_cons.mpr ⟨lw_p24, List.forall_mem_cons.mpr ⟨lw_p25, List.forall_mem_cons.mpr ⟨lw_p26, fun _ h => absurd h List.not_mem_nil⟩⟩⟩⟩⟩⟩⟩⟩⟩⟩⟩
def lw_privs : List (MethodName × Nat) := lw_privs_1 ++ (lw_privs_2)
def lw_tbl : List Cond := k2_sels lw_privs ++ tables_1
theorem lw_privs_ok : ∀ q ∈ lw_privs, lw_okq q := by
  show ∀ q ∈ lw_privs_1 ++ (lw_privs_2), lw_okq q
  exact List.forall_mem_append.mpr ⟨lw_r1, lw_r2⟩
def gws : List Cond := lw_tbl.filter goodWord
theorem gw_in {w : Cond} (i : Nat) (h : lw_tbl[i]? = some w) (hg : goodWord w = true) : w ∈ gws := List.mem_filter.mpr ⟨List.mem_of_getElem? h, hg⟩
theorem gw_good : GoodIn gws gws := fun w hw => ⟨hw, good_of_word (List.mem_filter.mp hw).2⟩
theorem gw_all (ws : List Cond) (ps : List Nat) (hp : ws = ps.filterMap (fun i => lw_tbl[i]?)) (hg : ws.all goodWord = true) : ∀ w ∈ ws, w ∈ gws := by
  intro w hw
  have h1 := List.all_eq_true.mp hg w hw
  rw [hp] at hw
  obtain ⟨i, -, hi⟩ := List.mem_filterMap.mp hw
  exact gw_in i hi h1
theorem gw_cons {w : Cond} (hw : w ∈ gws) : GoodIn gws (w :: gws) := fun v hv => by
  rcases List.mem_cons.mp hv with rfl | hv
  · exact gw_good v hw
  · exact gw_good v hv
end
section
/-! ===== BEGIN exceptions that leave a method, and their catching by the caller (launches without stack traces) ===== -/
section VXA
/-! The laws vx_back, vx_callV, vx_callS, vx_callSW, vx_throw0, vx_throwS follow proofs of the library, with one case more: JvmDerived/Free/Laws.lean (Back.of_free), Shelf42/LK1.lean (callV, callS), Shelf/KitTraced.lean (throwNew0V, throwNewS). -/
/-- where a method has thrown q: the class by its name, the cell, what was written, the world -/
def vx_T (XC : String → State → State → Prop) (st : State) (q : Addr) (t : State) (mc ms : Nat) (free : Addr → Prop) : Prop :=
  ∃ (E : String) (ce : Cell) (L : List Loc), XC E st t ∧ t.heap[q]? = some ce ∧ ce.vm = .none ∧ st.vm.findClass E = some ce.cls ∧ st.WarmedH t.vm ∧ st.sameButNew ({ t with vm := st.vm } : State) L mc ms ∧ ∀ z ∈ L, free z.base
def vx_Q (Qc : Array Value → State → Outcome → State → Prop) (XC : String → State → State → Prop) (mc ms : Nat) (free : Addr → Prop) : Array Value → State → Outcome → State → Prop := fun a st o t =>
  (Qc a st o t ∧ ∃ L, FrameEnd st o t L mc ms ∧ ∀ q ∈ L, free q.base) ∨ ∃ q, o = .threw q ∧ vx_T XC st q t mc ms free
/-- a callee that returns or throws -/
def vx_Met (l : Launch) (y : MethodName) (ws : List Cond) (rm : Room) (Pc : Array Value → State → Prop) (Qc : Array Value → State → Outcome → State → Prop) (XC : String → State → State → Prop) (mc ms : Nat) (free : Addr → Prop) : Prop :=
  MetFree l y (headSpec ws rm) Pc (fun _ _ _ _ _ => True) (vx_Q Qc XC mc ms free)
def vx_Post (XC : String → State → State → Prop) (mc ms : Nat) (free : Addr → Prop) : Pt → Array Value → Addr → Pt → Prop := fun A a q B =>
  ∃ (g : JFrame) (mk : MethodId) (t : State) (L : List Loc) (E : String) (ce : Cell), B.U.heap = t.heap ∧ B.U.vm = t.vm ∧ XC E (A.U.calling g mk a) t ∧ t.heap[q]? = some ce ∧ ce.vm = .none ∧ A.U.vm.findClass E = some ce.cls ∧ B.locs = A.locs ++ L ∧ (∀ z ∈ L, free z.base) ∧ B.cells = A.cells + mc ∧ B.slots = A.slots + ms
def vx_Back (l : Launch) (R : Room) (p : Program) (e : Env) (below : List Frame) (s : State) (sargs : Array Value) (y : MethodName) (len W9 : Nat)
    (Pre : Pt → Array Value → Prop) (Post : Pt → Array Value → Option Value → Pt → Prop) (PostX : Pt → Array Value → Addr → Pt → Prop) : Prop :=
  ∀ (m : MethodId) (meth : Method) (c : Code) (A : Pt) (g : JFrame) (ig : Instr) (mk : MethodId) (a : Array Value),
    Stand p l e R s m sargs below meth c A.U A.locs A.cells A.slots → g.method = m → g.locals.size = c.maxLocals → decode c.code g.pc = .ok (ig, len) →
    2 * g.monitorRoom + (g.stack.map fun v => v.category).sum ≤ W9 → A.U.methodNamed? y = some mk → Pre A a →
    (∃ (v : Option Value) (B : Pt), Stand p l e R s m sargs below meth c B.U B.locs B.cells B.slots ∧ Post A a v B ∧
      Steps p.tables e below (doInvoke e (A.U.setTop g) [] mk a).1 (B.U.setTop { g with pc := g.pc + len, stack := v.toList ++ g.stack })) ∨
    (∃ (q : Addr) (B : Pt), Stand p l e R s m sargs below meth c B.U B.locs B.cells B.slots ∧ PostX A a q B ∧
      Steps p.tables e below (doInvoke e (A.U.setTop g) [] mk a).1 ((B.U.setTop g).pushFrame (.throwing q)))
section Payer
variable {l : Launch} {R : Room} {p : Program} {e : Env} {below : List Frame} {s : State} {sargs : Array Value} {y : MethodName} {len W9 : Nat}
theorem vx_back {ws : List Cond} {rm : Room} {Pc : Array Value → State → Prop} {Qc : Array Value → State → Outcome → State → Prop} {XC : String → State → State → Prop} {mc ms : Nat} {free : Addr → Prop} {bytes : ByteArray} {maxL : Nat} {ret : Option FieldType}
    (hM : vx_Met l y ws rm Pc Qc XC mc ms free) (hblind : FrameBlind Pc) (hrc : rm.cells = mc) (hrs : rm.slots = ms)
    (hframes : rm.frames + 1 ≤ R.frames) (hlocals : W9 + (maxL + 11) + rm.locals ≤ R.locals)
    (hws : ∀ w ∈ ws, ∀ a' U, s.WarmedH U.vm → w.before a' U = true) (hcode : Cond.code y bytes maxL ret ∈ ws) (hinit : ∀ a' U, s.WarmedH U.vm → (Cond.initialized y.cls).before a' U = true) :
    vx_Back l R p e below s sargs y len W9 (PreOf R mc ms Pc) (PostOf Qc mc ms free) (vx_Post XC mc ms free) := by
  intro m meth c A g ig mk a X hg hsize hdg hW hn hp
  have h1 : (headSpec ws rm).pre.before a A.U = true := atoms_intro fun w hw => hws w hw _ _ X.warmed
  have h2 : (Cond.code y bytes maxL ret).before a A.U = true := hws _ hcode _ _ X.warmed
  have h3 : (Cond.initialized y.cls).before a A.U = true := hinit _ _ X.warmed
  have h4 : A.cells + (headSpec ws rm).room.cells ≤ R.cells := by rw [show (headSpec ws rm).room.cells = mc from hrc]; exact hp.1
  have h5 : A.slots + (headSpec ws rm).room.slots ≤ R.slots := by rw [show (headSpec ws rm).room.slots = ms from hrs]; exact hp.2.1
  have hPc : Pc a (A.U.calling g mk a) := hblind _ _ _ _ hp.2.2
  obtain ⟨U, Ls, c0, s0⟩ := A
  dsimp only [Pt.U, Pt.locs, Pt.cells, Pt.slots] at h1 h2 h3 h4 h5 X hn hPc ⊢
  obtain ⟨methY, cY, hmY, hcY, -, hlY, -, -, -, -⟩ := Cond.code_spec hn h2
  obtain ⟨kY, hkY, -⟩ := className_of_methodNamed hn
  have hinitY : kY.init = .initialized := Cond.initialized_spec (findClass_of_methodNamed hn) hkY h3
  have h : At U g.method c below := by rw [hg]; exact X.here
  have hlocals9 : W9 + (maxL + 11) + (headSpec ws rm).room.locals ≤ R.locals := hlocals
  have happ : (headSpec ws rm).appliesLoose y e.platform (U.calling g mk a) = true :=
    Spec.appliesLoose_calling (g := g) h hdg hn hkY hinitY
      (X.room_calling (g := g) (R' := (headSpec ws rm).room) hsize hmY hcY hframes (by rw [hlY]; omega) h4 h5) h1
  obtain ⟨mid, hmid⟩ := h.above
  have hfr : (U.setTop g).frames = (.java g :: mid) ++ below := by rw [State.frames_setTop' g h.top, hmid]; rfl
  obtain ⟨o, s₂, hsteps, -, hend, hq⟩ := Steps.callFree hM p X.admits X.cas X.clock (acts := []) hfr happ hPc trivial
  have hq' : vx_Q Qc XC mc ms free a (U.calling g mk a) o s₂ := hq
  rw [State.frames_setTop' g h.top] at hend
  obtain ⟨g₀, hg0⟩ := Option.isSome_iff_exists.mp h.top
  obtain ⟨r, hr⟩ := State.topJava?_eq_some.mp hg0
  have hr' : (({ U with heap := s₂.heap, slotsUsed := s₂.slotsUsed } : State).setVm s₂.vm).frames = .java g₀ :: r := hr
  rcases hq' with ⟨hqc, L, hfe, hL⟩ | ⟨q, rfl, E, ce, L, hx, hce, hcv, hcl, hW₂, hsm, hL⟩
  · obtain ⟨⟨v, rfl⟩, hW₂, e2, q2, q3, q4, q5, q6⟩ := id hfe
    have e3 : s₂ = ({ (U.calling g mk a).setFrames s₂.frames with heap := s₂.heap, slotsUsed := s₂.slotsUsed } : State).setVm s₂.vm := by
      have : s₂ = ({ s₂ with vm := (U.calling g mk a).vm } : State).setVm s₂.vm := rfl
      rw [e2] at this
      exact this
    obtain ⟨c₂, i₂, len₂, hc₂, hd₂, hf₂⟩ := hend
    have hW' : U.WarmedH s₂.vm := hW₂
    have hcc : c₂ = c := by
      have h1 : s₂.code? g.method = U.code? g.method := by
        rw [State.code?_eq, State.code?_eq, hW'.alike.method?]
      exact Option.some.inj (hc₂.symm.trans (h1.trans h.code))
    subst hcc
    have hlen : len₂ = len := by rw [hdg] at hd₂; cases hd₂; rfl
    subst hlen
    have hs₂ : s₂ = (({ U with heap := s₂.heap, slotsUsed := s₂.slotsUsed } : State).setVm s₂.vm).setTop { g with pc := g.pc + len₂, stack := v.toList ++ g.stack } := by
      refine e3.trans ?_
      rw [hf₂, State.calling_eq h.top, State.setFrames_setFrames, State.setTop_of_frames _ hr', hr]
      rfl
    have hsame : U.sameButNew ({ U with heap := s₂.heap, slotsUsed := s₂.slotsUsed } : State) L mc ms := by
      refine ⟨?_, q2, q3, q4, q5, q6⟩
      obtain ⟨t, ht, -⟩ := State.frames_cons hr
      show ({ U with heap := s₂.heap, slotsUsed := s₂.slotsUsed } : State) = { U.setFrames U.frames with heap := s₂.heap, slotsUsed := s₂.slotsUsed }
      rw [State.setFrames_self ht]
    subst hg
    refine Or.inl ⟨v, ⟨(({ U with heap := s₂.heap, slotsUsed := s₂.slotsUsed } : State).setVm s₂.vm), Ls ++ L, c0 + mc, s0 + ms⟩,
      ⟨X.admits, X.cas, X.clock, X.frames, X.room, X.hears, X.method, X.code, (X.here.setHeapUsed s₂.heap s₂.slotsUsed).setVm hW'.alike, X.tail, State.WarmedH.trans X.warmed hW', X.limits, X.bytes, X.same.trans (hsame.setVm s.vm)⟩,
      ⟨g, mk, s₂, L, rfl, rfl, hqc, rfl, hL, rfl, rfl⟩, ?_⟩
    show Steps p.tables e below _ ((({ U with heap := s₂.heap, slotsUsed := s₂.slotsUsed } : State).setVm s₂.vm).setTop { g with pc := g.pc + len₂, stack := v.toList ++ g.stack })
    rw [← hs₂]
    exact hsteps
  · obtain ⟨e2, q2, q3, q4, q5, q6⟩ := id hsm
    have e3 : s₂ = ({ (U.calling g mk a).setFrames s₂.frames with heap := s₂.heap, slotsUsed := s₂.slotsUsed } : State).setVm s₂.vm := by
      have : s₂ = ({ s₂ with vm := (U.calling g mk a).vm } : State).setVm s₂.vm := rfl
      rw [e2] at this
      exact this
    have hf₂ : s₂.frames = .throwing q :: .java g :: U.frames.tail := hend
    have hW' : U.WarmedH s₂.vm := hW₂
    have hs₂ : s₂ = ((({ U with heap := s₂.heap, slotsUsed := s₂.slotsUsed } : State).setVm s₂.vm).setTop g).pushFrame (.throwing q) := by
      refine e3.trans ?_
      rw [hf₂, State.calling_eq h.top, State.setFrames_setFrames, State.pushFrame, State.frames_setTop _ hr', State.setTop_of_frames _ hr', State.setFrames_setFrames, hr]
      rfl
    have hsame : U.sameButNew ({ U with heap := s₂.heap, slotsUsed := s₂.slotsUsed } : State) L mc ms := by
      refine ⟨?_, q2, q3, q4, q5, q6⟩
      obtain ⟨t, ht, -⟩ := State.frames_cons hr
      show ({ U with heap := s₂.heap, slotsUsed := s₂.slotsUsed } : State) = { U.setFrames U.frames with heap := s₂.heap, slotsUsed := s₂.slotsUsed }
      rw [State.setFrames_self ht]
    subst hg
    refine Or.inr ⟨q, ⟨(({ U with heap := s₂.heap, slotsUsed := s₂.slotsUsed } : State).setVm s₂.vm), Ls ++ L, c0 + mc, s0 + ms⟩,
      ⟨X.admits, X.cas, X.clock, X.frames, X.room, X.hears, X.method, X.code, (X.here.setHeapUsed s₂.heap s₂.slotsUsed).setVm hW'.alike, X.tail, State.WarmedH.trans X.warmed hW', X.limits, X.bytes, X.same.trans (hsame.setVm s.vm)⟩,
      ⟨g, mk, s₂, L, E, ce, rfl, rfl, hx, hce, hcv, hcl, rfl, hL, rfl, rfl⟩, ?_⟩
    show Steps p.tables e below _ (((({ U with heap := s₂.heap, slotsUsed := s₂.slotsUsed } : State).setVm s₂.vm).setTop g).pushFrame (.throwing q))
    rw [← hs₂]
    exact hsteps
end Payer
section Calls
variable {p : Program} {l : Launch} {e : Env} {R : Room} {s : State} {m : MethodId} {args : Array Value} {below : List Frame} {meth : Method} {c : Code} {T : State} {locs : List Loc} {cells slots : Nat}
theorem vx_callV (X : Stand p l e R s m args below meth c T locs cells slots) (hexec : p.tables.exec = Jvm.exec) {own C : String} {index : Nat} {y : MethodName} {bytes : ByteArray} {maxL : Nat} {ret : Option FieldType}
    (hown : s.vm.findClass own = some m.cls) (hlink : (Cond.methodLink own index y).before args s = true) (hinst : (Cond.instanceMethod y).before args s = true) (hsel : (Cond.selects C y y).before args s = true)
    (hcode : (Cond.code y bytes maxL ret).before args s = true) (hy : y.cls ≠ "java/lang/invoke/MethodHandle" ∧ y.cls ≠ "java/lang/invoke/VarHandle")
    {W9 : Nat} {Pre : Pt → Array Value → Prop} {Post : Pt → Array Value → Option Value → Pt → Prop} {PostX : Pt → Array Value → Addr → Pt → Prop} (hK : vx_Back l R p e below s args y 3 W9 Pre Post PostX)
    {b : Addr} {cellB : Cell} (hcell : T.heap[b]? = some cellB) (hobj : cellB.vm.isStatics = false) (hcls : s.vm.findClass C = some cellB.cls)
    {g : JFrame} (hg : g.method = m) (hsize : g.locals.size = c.maxLocals) {argsL rest : List Value} (hlen : ∀ sig, parseMethodDescriptor y.desc = some sig → argsL.length = sig.parameters.length)
    (hstack : g.stack = argsL.reverse ++ .ref b :: rest) (hW : 2 * g.monitorRoom + (rest.map fun v => v.category).sum ≤ W9) (hdg : decode c.code g.pc = .ok (.invokevirtual index, 3))
    (hpre : ∀ vm₁, s.WarmedH vm₁ → Pre ⟨T.setVm vm₁, locs, cells, slots⟩ (Value.ref b :: argsL).toArray) :
    (∃ (v : Option Value) (vm₁ : Vm) (B : Pt), s.WarmedH vm₁ ∧ Stand p l e R s m args below meth c B.U B.locs B.cells B.slots ∧ Post ⟨T.setVm vm₁, locs, cells, slots⟩ (Value.ref b :: argsL).toArray v B ∧
      ∀ target, Steps p.tables e below (B.U.setTop { g with pc := g.pc + 3, stack := v.toList ++ rest }) target → Steps p.tables e below (T.setTop g) target) ∨
    (∃ (q : Addr) (vm₁ : Vm) (B : Pt), s.WarmedH vm₁ ∧ Stand p l e R s m args below meth c B.U B.locs B.cells B.slots ∧ PostX ⟨T.setVm vm₁, locs, cells, slots⟩ (Value.ref b :: argsL).toArray q B ∧
      Steps p.tables e below (T.setTop g) ((B.U.setTop { g with stack := rest }).pushFrame (.throwing q))) := by
  obtain ⟨mk, methM, hnamed, hmethM, hstM, habM⟩ := Cond.instanceMethod_spec hinst
  obtain ⟨methM', cM, hmethM', -, -, -, -, -, -, hsigM⟩ := Cond.code_spec hnamed hcode
  cases hmethM.symm.trans hmethM'
  obtain ⟨c2, r2, m2, q1, q2, q3, q4, kP, hkP, hkPi⟩ := Cond.selects_spec hsel
  cases hcls.symm.trans q1
  cases (State.methodFound?_of_named hnamed hy).symm.trans q2
  cases hnamed.symm.trans q3
  have hselP : selectMethod e.platform s.vm cellB.cls mk = .method mk := by rw [Launch.admits_selectMethod X.admits]; exact q4
  obtain ⟨vm₁, X₁, hstep₁⟩ := X.invokevirtual hexec hown hlink hnamed hmethM hstM hkP hkPi hy (a := b) (cell := cellB) hcell
    (fun z h => by rw [h] at hobj; cases hobj) hselP hmethM habM hkP hkPi (g := g) hg (argsL := argsL) (rest := rest) (hlen _ hsigM) hstack hdg
  rcases hK m meth c ⟨T.setVm vm₁, locs, cells, slots⟩ { g with stack := rest } (.invokevirtual index) mk (Value.ref b :: argsL).toArray X₁ hg hsize hdg hW (X₁.named hnamed) (hpre vm₁ X₁.warmed) with ⟨v, B, X', hpost, hsteps⟩ | ⟨q, B, X', hpost, hsteps⟩
  · exact Or.inl ⟨v, vm₁, B, X₁.warmed, X', hpost, fun target h => hstep₁ _ fun acts => by rw [doInvoke_state]; exact hsteps.trans h⟩
  · exact Or.inr ⟨q, vm₁, B, X₁.warmed, X', hpost, hstep₁ _ fun acts => by rw [doInvoke_state]; exact hsteps⟩
theorem vx_callS (X : Stand p l e R s m args below meth c T locs cells slots) (hexec : p.tables.exec = Jvm.exec) {own : String} {index : Nat} {y : MethodName} {bytes : ByteArray} {maxL : Nat} {ret : Option FieldType}
    (hown : s.vm.findClass own = some m.cls) (hlink : (Cond.methodLink own index y).before args s = true) (hstat : (Cond.static y).before args s = true) (hinit : (Cond.initialized y.cls).before args s = true)
    (hcode : (Cond.code y bytes maxL ret).before args s = true) (hy : y.cls ≠ "java/lang/invoke/MethodHandle" ∧ y.cls ≠ "java/lang/invoke/VarHandle")
    {W9 : Nat} {Pre : Pt → Array Value → Prop} {Post : Pt → Array Value → Option Value → Pt → Prop} {PostX : Pt → Array Value → Addr → Pt → Prop} (hK : vx_Back l R p e below s args y 3 W9 Pre Post PostX)
    {g : JFrame} (hg : g.method = m) (hsize : g.locals.size = c.maxLocals) {argsL rest : List Value} (hlen : ∀ sig, parseMethodDescriptor y.desc = some sig → argsL.length = sig.parameters.length)
    (hstack : g.stack = argsL.reverse ++ rest) (hW : 2 * g.monitorRoom + (rest.map fun v => v.category).sum ≤ W9) (hdg : decode c.code g.pc = .ok (.invokestatic index, 3))
    (hpre : ∀ vm₁, s.WarmedH vm₁ → Pre ⟨T.setVm vm₁, locs, cells, slots⟩ argsL.toArray) :
    (∃ (v : Option Value) (vm₁ : Vm) (B : Pt), s.WarmedH vm₁ ∧ Stand p l e R s m args below meth c B.U B.locs B.cells B.slots ∧ Post ⟨T.setVm vm₁, locs, cells, slots⟩ argsL.toArray v B ∧
      ∀ target, Steps p.tables e below (B.U.setTop { g with pc := g.pc + 3, stack := v.toList ++ rest }) target → Steps p.tables e below (T.setTop g) target) ∨
    (∃ (q : Addr) (vm₁ : Vm) (B : Pt), s.WarmedH vm₁ ∧ Stand p l e R s m args below meth c B.U B.locs B.cells B.slots ∧ PostX ⟨T.setVm vm₁, locs, cells, slots⟩ argsL.toArray q B ∧
      Steps p.tables e below (T.setTop g) ((B.U.setTop { g with stack := rest }).pushFrame (.throwing q))) := by
  obtain ⟨mk, hnamed⟩ := Cond.code_named hcode
  obtain ⟨methM, cM, hmethM, -, -, -, -, -, -, hsigM⟩ := Cond.code_spec hnamed hcode
  have hstatic : methM.isStatic = true := Cond.static_spec hnamed hmethM hstat
  obtain ⟨kP, hkP, -⟩ := className_of_methodNamed hnamed
  have hinitP : kP.init = .initialized := Cond.initialized_spec (findClass_of_methodNamed hnamed) hkP hinit
  obtain ⟨vm₁, X₁, hstep₁⟩ := X.invokestatic hexec hown hlink hnamed hmethM hstatic hkP hinitP hy (g := g) hg (argsL := argsL) (rest := rest) (hlen _ hsigM) hstack hdg
  rcases hK m meth c ⟨T.setVm vm₁, locs, cells, slots⟩ { g with stack := rest } (.invokestatic index) mk argsL.toArray X₁ hg hsize hdg hW (X₁.named hnamed) (hpre vm₁ X₁.warmed) with ⟨v, B, X', hpost, hsteps⟩ | ⟨q, B, X', hpost, hsteps⟩
  · exact Or.inl ⟨v, vm₁, B, X₁.warmed, X', hpost, fun target h => hstep₁ _ fun acts => by rw [doInvoke_state]; exact hsteps.trans h⟩
  · exact Or.inr ⟨q, vm₁, B, X₁.warmed, X', hpost, hstep₁ _ fun acts => by rw [doInvoke_state]; exact hsteps⟩
end Calls
theorem vx_cls {s : State} {T : State} {vm₁ : Vm} {E : String} {k : ClassId} (hW : s.WarmedH vm₁) (h : (T.setVm vm₁).vm.findClass E = some k) : s.vm.findClass E = some k := by
  have h1 : vm₁.findClass E = some k := h
  rw [hW.alike.findClass] at h1
  exact h1
/-- the method's frame g, with q thrown over it -/
def vx_W (p : Program) (l : Launch) (e : Env) (R : Room) (s : State) (m : MethodId) (args : Array Value) (below : List Frame) (meth : Method) (c : Code) (H : Heap) (locs : List Loc) (cells slots : Nat) (Q : State → Prop) (g : JFrame) (q : Addr) : Prop :=
  ∀ T : State, T.heap = H → Stand p l e R s m args below meth c T locs cells slots → ∃ t, Steps p.tables e below ((T.setTop g).pushFrame (.throwing q)) t ∧ Q t
def vx_Run (p : Program) (l : Launch) (e : Env) (R : Room) (s : State) (m : MethodId) (args : Array Value) (below : List Frame) (meth : Method) (c : Code) (H : Heap) (locs : List Loc) (cells slots mc ms : Nat) (g : JFrame) (rest : List Value) (Qa : State → Outcome → State → Prop) (XC : String → State → State → Prop) (free : Addr → Prop) : Prop :=
  ∀ T : State, T.heap = H → Stand p l e R s m args below meth c T locs cells slots →
    (∃ (v : Option Value) (st₀ t T' : State) (L : List Loc), st₀.heap = H ∧ Stand p l e R s m args below meth c T' (locs ++ L) (cells + mc) (slots + ms) ∧ (∀ q ∈ L, free q.base) ∧ T'.heap = t.heap ∧ T'.vm = t.vm ∧ Qa st₀ (.returned v) t ∧
      Goes p e below T g T' { g with pc := g.pc + 3, stack := v.toList ++ rest }) ∨
    (∃ (q : Addr) (st₀ t T' : State) (L : List Loc) (E : String) (ce : Cell), st₀.heap = H ∧ Stand p l e R s m args below meth c T' (locs ++ L) (cells + mc) (slots + ms) ∧ (∀ z ∈ L, free z.base) ∧ T'.heap = t.heap ∧ T'.vm = t.vm ∧ XC E st₀ t ∧ t.heap[q]? = some ce ∧ ce.vm = .none ∧ s.vm.findClass E = some ce.cls ∧
      Steps p.tables e below (T.setTop g) ((T'.setTop { g with stack := rest }).pushFrame (.throwing q)))
def vx_X {S : Type} (px : S → Prop) (B : String → S → State → Prop) (A : Nat → Prop) : String → State → State → Prop := fun E st t => ∃ u : S, px u ∧ B E u t ∧ va_F A st t
section Runs
variable {p : Program} {l : Launch} {e : Env} {R : Room} {s : State} {m : MethodId} {args : Array Value} {below : List Frame} {meth : Method} {c : Code} {H : Heap} {locs : List Loc} {cells slots : Nat}
variable {y : MethodName} {bytes cc : ByteArray} {maxL nL mc ms n index : Nat} {ret : Option FieldType} {ws : List Cond} {rm : Room} {Pc : Array Value → State → Prop} {Qc : Array Value → State → Outcome → State → Prop} {XC : String → State → State → Prop} {free : Addr → Prop} {Ts : List Cond} {own C : String} {b : Addr} {As rest : List Value} {g : JFrame}
theorem vx_callBack (cb : CallB R s args own index y bytes maxL ret ws rm mc ms n) (hM : vx_Met l y ws rm Pc Qc XC mc ms free) (hbl : FrameBlind Pc) : vx_Back l R p e below s args y 3 8 (PreOf R mc ms Pc) (PostOf Qc mc ms free) (vx_Post XC mc ms free) := by
  obtain ⟨hrc, hrs, hfr, hlo, hws, hcw, -, hini, -⟩ := cb
  exact vx_back (bytes := bytes) (maxL := maxL) (ret := ret) hM hbl hrc hrs hfr hlo hws hcw (fun a' U hW => word_at hW (Or.inl (by first | rfl | simp [Cond.onTables, Cond.keeps, Cond.steady])) hini)
theorem vx_runV (S : CallFix p m c cc nL s args Ts own) (hM : vx_Met l y ws rm Pc Qc XC mc ms free) (cw : CallW R s args own C index y bytes maxL ret ws rm mc ms n) (hp : PreV s H C b Pc As)
    (hg : g.method = m) (hn : As.length = n) (hsize : g.locals.size = nL) (hstack : g.stack = As.reverse ++ .ref b :: rest) (hW : 2 * g.monitorRoom + (rest.map fun v => v.category).sum ≤ 8) (hdg : decode cc g.pc = .ok (.invokevirtual index, 3)) (hf : cells + mc ≤ R.cells ∧ slots + ms ≤ R.slots) :
    vx_Run p l e R s m args below meth c H locs cells slots mc ms g rest (Qc (Value.ref b :: As).toArray) XC free := by
  have hK : vx_Back l R p e below s args y 3 8 (PreOf R mc ms Pc) (PostOf Qc mc ms free) (vx_Post XC mc ms free) := vx_callBack cw.1 hM hp.1
  obtain ⟨⟨-, -, -, -, -, -, hcode, -, hy, hlen, hl⟩, hin, hse⟩ := cw
  obtain ⟨hx, hb, hml, ho, -⟩ := S
  obtain ⟨-, ⟨cellB, hcB, hoB, hclB⟩, hPc⟩ := hp
  intro T hT X
  rcases vx_callV X hx (C := C) (bytes := bytes) (maxL := maxL) (ret := ret) ho hl hin hse hcode hy hK (by rw [hT]; exact hcB) hoB hclB hg (hsize.trans hml.symm) (argsL := As) (rest := rest) (fun sig h => hn.trans (hlen sig h)) hstack hW (by rw [hb]; exact hdg)
    (fun vm₁ hW₁ => ⟨hf.1, hf.2, hPc (T.setVm vm₁) hT hW₁⟩) with ⟨v, vm₁, ⟨U', l2, c2, s2⟩, hW₁, X', ⟨g', mk, t, L, e1, e2, hq, h1, hL, h2, h3⟩, st⟩ | ⟨q, vm₁, ⟨U', l2, c2, s2⟩, hW₁, X', ⟨g', mk, t, L, E, ce, e1, e2, hq, hce, hcv, hcl, h1, hL, h2, h3⟩, st⟩
  · dsimp only [Pt.U, Pt.locs, Pt.cells, Pt.slots] at X' e1 e2 h1 h2 h3 st
    subst h1; subst h2; subst h3
    exact Or.inl ⟨v, (T.setVm vm₁).calling g' mk (Value.ref b :: As).toArray, t, U', L, hT, X', hL, e1, e2, hq, st⟩
  · dsimp only [Pt.U, Pt.locs, Pt.cells, Pt.slots] at X' e1 e2 h1 h2 h3 st hcl
    subst h1; subst h2; subst h3
    exact Or.inr ⟨q, (T.setVm vm₁).calling g' mk (Value.ref b :: As).toArray, t, U', L, E, ce, hT, X', hL, e1, e2, hq, hce, hcv, vx_cls hW₁ hcl, st⟩
theorem vx_runS (S : CallFix p m c cc nL s args Ts own) (hM : vx_Met l y ws rm Pc Qc XC mc ms free) (cw : CallB R s args own index y bytes maxL ret ws rm mc ms n ∧ (Cond.static y).before args s = true) (hp : PreS s H Pc As)
    (hg : g.method = m) (hn : As.length = n) (hsize : g.locals.size = nL) (hstack : g.stack = As.reverse ++ rest) (hW : 2 * g.monitorRoom + (rest.map fun v => v.category).sum ≤ 8) (hdg : decode cc g.pc = .ok (.invokestatic index, 3)) (hf : cells + mc ≤ R.cells ∧ slots + ms ≤ R.slots) :
    vx_Run p l e R s m args below meth c H locs cells slots mc ms g rest (Qc As.toArray) XC free := by
  have hK : vx_Back l R p e below s args y 3 8 (PreOf R mc ms Pc) (PostOf Qc mc ms free) (vx_Post XC mc ms free) := vx_callBack cw.1 hM hp.1
  obtain ⟨⟨-, -, -, -, -, -, hcode, hini, hy, hlen, hl⟩, hstt⟩ := cw
  obtain ⟨hx, hb, hml, ho, -⟩ := S
  intro T hT X
  rcases vx_callS X hx (bytes := bytes) (maxL := maxL) (ret := ret) ho hl hstt hini hcode hy hK hg (hsize.trans hml.symm) (argsL := As) (rest := rest) (fun sig h => hn.trans (hlen sig h)) hstack hW (by rw [hb]; exact hdg)
    (fun vm₁ hW₁ => ⟨hf.1, hf.2, hp.2 (T.setVm vm₁) hT hW₁⟩) with ⟨v, vm₁, ⟨U', l2, c2, s2⟩, hW₁, X', ⟨g', mk, t, L, e1, e2, hq, h1, hL, h2, h3⟩, st⟩ | ⟨q, vm₁, ⟨U', l2, c2, s2⟩, hW₁, X', ⟨g', mk, t, L, E, ce, e1, e2, hq, hce, hcv, hcl, h1, hL, h2, h3⟩, st⟩
  · dsimp only [Pt.U, Pt.locs, Pt.cells, Pt.slots] at X' e1 e2 h1 h2 h3 st
    subst h1; subst h2; subst h3
    exact Or.inl ⟨v, (T.setVm vm₁).calling g' mk As.toArray, t, U', L, hT, X', hL, e1, e2, hq, st⟩
  · dsimp only [Pt.U, Pt.locs, Pt.cells, Pt.slots] at X' e1 e2 h1 h2 h3 st hcl
    subst h1; subst h2; subst h3
    exact Or.inr ⟨q, (T.setVm vm₁).calling g' mk As.toArray, t, U', L, E, ce, hT, X', hL, e1, e2, hq, hce, hcv, vx_cls hW₁ hcl, st⟩
end Runs
section Rows
variable {p : Program} {l : Launch} {e : Env} {R : Room} {s : State} {m : MethodId} {args : Array Value} {below : List Frame} {meth : Method} {c : Code} {H : Heap} {locs : List Loc} {cells slots : Nat} {Q : State → Prop}
variable {mc ms : Nat} {free : Addr → Prop} {A0 A1 : Nat → Prop} {H0 : Heap} {a : Array Value} {pc : Nat} {ls : Array Slot} {st0 rest : List Value}
theorem vx_keep {st₀ t T' : State} {L : List Loc} (h0 : st₀.heap = H) (e1 : T'.heap = t.heap) (hS : va_S A0 H0 H locs) (hA : ∀ q, q < H.size → A1 q → A0 q) (hf : ∀ q, free q → A0 q) (hL : ∀ q ∈ L, free q.base) (hF : va_F A1 st₀ t) :
    H.size ≤ T'.heap.size ∧ (∀ q : Nat, q < H.size → ¬ A1 q → T'.heap[q]? = H[q]?) ∧ va_S A0 H0 T'.heap (locs ++ L) := by
  obtain ⟨hz, hk⟩ := hF
  rw [h0] at hz hk
  exact ⟨by rw [e1]; exact hz, fun q h1 h2 => by rw [e1]; exact hk q h1 h2,
    ⟨Nat.le_trans hS.1 (by rw [e1]; exact hz), fun q h1 h2 => by rw [e1, hk q (Nat.lt_of_lt_of_le h1 hS.1) (fun z => h2 (hA q (Nat.lt_of_lt_of_le h1 hS.1) z))]; exact hS.2.1 q h1 h2, fun q hq => by
      rcases List.mem_append.mp hq with h | h
      · exact hS.2.2 q h
      · exact hf _ (hL q h)⟩⟩
theorem vx_calli {S SX : Type} {post : Int32 → S → Prop} {px : SX → Prop} {B : S → State → Prop} {BX : String → SX → State → Prop} {AX : Nat → Prop} (hr : vx_Run p l e R s m args below meth c H locs cells slots mc ms (F0 m pc ls st0) rest (va_Qi post B A1 a) (vx_X px BX AX) free) (hS : va_S A0 H0 H locs) (hA : ∀ q, q < H.size → A1 q → A0 q) (hf : ∀ q, free q → A0 q) (hAX : ∀ q, q < H.size → AX q → A0 q)
    (kx : ∀ (E : String) (ce : Cell) (q9 : Addr) (u : SX) (t : State) (H1 : Heap) (locs1 : List Loc), t.heap = H1 → s.vm.Alike t.vm → px u → BX E u t → H.size ≤ H1.size → (∀ q : Nat, q < H.size → ¬ AX q → H1[q]? = H[q]?) → va_S A0 H0 H1 locs1 → H1[q9]? = some ce → ce.vm = .none → s.vm.findClass E = some ce.cls → vx_W p l e R s m args below meth c H1 locs1 (cells + mc) (slots + ms) Q (F0 m pc ls rest) q9)
    (kk : ∀ (r : Int32) (u : S) (t : State) (H1 : Heap) (locs1 : List Loc), t.heap = H1 → s.vm.Alike t.vm → post r u → B u t → H.size ≤ H1.size → (∀ q : Nat, q < H.size → ¬ A1 q → H1[q]? = H[q]?) → va_S A0 H0 H1 locs1 → W p l e R s m args below meth c H1 locs1 (cells + mc) (slots + ms) Q (F0 m (pc + 3) ls (.int r :: rest))) : W p l e R s m args below meth c H locs cells slots Q (F0 m pc ls st0) := by
  intro T hT X
  rcases hr T hT X with ⟨v, st₀, t, T', L, h0, X', hL, e1, e2, ⟨⟨r, u, hv, hp, hb⟩, hF⟩, st⟩ | ⟨q, st₀, t, T', L, E, ce, h0, X', hL, e1, e2, ⟨u, hp, hb, hF⟩, hce, hcv, hcl, st⟩
  · cases hv
    obtain ⟨k1, k2, k3⟩ := vx_keep h0 e1 hS hA hf hL hF
    obtain ⟨t2, a1, b1⟩ := kk r u t T'.heap (locs ++ L) e1.symm (by rw [← e2]; exact X'.warmed.alike) hp hb k1 k2 k3 T' rfl X'
    exact ⟨t2, st t2 a1, b1⟩
  · obtain ⟨k1, k2, k3⟩ := vx_keep h0 e1 hS hAX hf hL hF
    obtain ⟨t2, a1, b1⟩ := kx E ce q u t T'.heap (locs ++ L) e1.symm (by rw [← e2]; exact X'.warmed.alike) hp hb k1 k2 k3 (by rw [e1]; exact hce) hcv hcl T' rfl X'
    exact ⟨t2, st.trans a1, b1⟩
theorem vx_calll {S SX : Type} {post : Int64 → S → Prop} {px : SX → Prop} {B : S → State → Prop} {BX : String → SX → State → Prop} {AX : Nat → Prop} (hr : vx_Run p l e R s m args below meth c H locs cells slots mc ms (F0 m pc ls st0) rest (va_Ql post B A1 a) (vx_X px BX AX) free) (hS : va_S A0 H0 H locs) (hA : ∀ q, q < H.size → A1 q → A0 q) (hf : ∀ q, free q → A0 q) (hAX : ∀ q, q < H.size → AX q → A0 q)
    (kx : ∀ (E : String) (ce : Cell) (q9 : Addr) (u : SX) (t : State) (H1 : Heap) (locs1 : List Loc), t.heap = H1 → s.vm.Alike t.vm → px u → BX E u t → H.size ≤ H1.size → (∀ q : Nat, q < H.size → ¬ AX q → H1[q]? = H[q]?) → va_S A0 H0 H1 locs1 → H1[q9]? = some ce → ce.vm = .none → s.vm.findClass E = some ce.cls → vx_W p l e R s m args below meth c H1 locs1 (cells + mc) (slots + ms) Q (F0 m pc ls rest) q9)
    (kk : ∀ (r : Int64) (u : S) (t : State) (H1 : Heap) (locs1 : List Loc), t.heap = H1 → s.vm.Alike t.vm → post r u → B u t → H.size ≤ H1.size → (∀ q : Nat, q < H.size → ¬ A1 q → H1[q]? = H[q]?) → va_S A0 H0 H1 locs1 → W p l e R s m args below meth c H1 locs1 (cells + mc) (slots + ms) Q (F0 m (pc + 3) ls (.long r :: rest))) : W p l e R s m args below meth c H locs cells slots Q (F0 m pc ls st0) := by
  intro T hT X
  rcases hr T hT X with ⟨v, st₀, t, T', L, h0, X', hL, e1, e2, ⟨⟨r, u, hv, hp, hb⟩, hF⟩, st⟩ | ⟨q, st₀, t, T', L, E, ce, h0, X', hL, e1, e2, ⟨u, hp, hb, hF⟩, hce, hcv, hcl, st⟩
  · cases hv
    obtain ⟨k1, k2, k3⟩ := vx_keep h0 e1 hS hA hf hL hF
    obtain ⟨t2, a1, b1⟩ := kk r u t T'.heap (locs ++ L) e1.symm (by rw [← e2]; exact X'.warmed.alike) hp hb k1 k2 k3 T' rfl X'
    exact ⟨t2, st t2 a1, b1⟩
  · obtain ⟨k1, k2, k3⟩ := vx_keep h0 e1 hS hAX hf hL hF
    obtain ⟨t2, a1, b1⟩ := kx E ce q u t T'.heap (locs ++ L) e1.symm (by rw [← e2]; exact X'.warmed.alike) hp hb k1 k2 k3 (by rw [e1]; exact hce) hcv hcl T' rfl X'
    exact ⟨t2, st.trans a1, b1⟩
theorem vx_callf {S SX : Type} {post : UInt32 → S → Prop} {px : SX → Prop} {B : S → State → Prop} {BX : String → SX → State → Prop} {AX : Nat → Prop} (hr : vx_Run p l e R s m args below meth c H locs cells slots mc ms (F0 m pc ls st0) rest (va_Qf post B A1 a) (vx_X px BX AX) free) (hS : va_S A0 H0 H locs) (hA : ∀ q, q < H.size → A1 q → A0 q) (hf : ∀ q, free q → A0 q) (hAX : ∀ q, q < H.size → AX q → A0 q)
    (kx : ∀ (E : String) (ce : Cell) (q9 : Addr) (u : SX) (t : State) (H1 : Heap) (locs1 : List Loc), t.heap = H1 → s.vm.Alike t.vm → px u → BX E u t → H.size ≤ H1.size → (∀ q : Nat, q < H.size → ¬ AX q → H1[q]? = H[q]?) → va_S A0 H0 H1 locs1 → H1[q9]? = some ce → ce.vm = .none → s.vm.findClass E = some ce.cls → vx_W p l e R s m args below meth c H1 locs1 (cells + mc) (slots + ms) Q (F0 m pc ls rest) q9)
    (kk : ∀ (r : UInt32) (u : S) (t : State) (H1 : Heap) (locs1 : List Loc), t.heap = H1 → s.vm.Alike t.vm → post r u → B u t → H.size ≤ H1.size → (∀ q : Nat, q < H.size → ¬ A1 q → H1[q]? = H[q]?) → va_S A0 H0 H1 locs1 → W p l e R s m args below meth c H1 locs1 (cells + mc) (slots + ms) Q (F0 m (pc + 3) ls (.float r :: rest))) : W p l e R s m args below meth c H locs cells slots Q (F0 m pc ls st0) := by
  intro T hT X
  rcases hr T hT X with ⟨v, st₀, t, T', L, h0, X', hL, e1, e2, ⟨⟨r, u, hv, hp, hb⟩, hF⟩, st⟩ | ⟨q, st₀, t, T', L, E, ce, h0, X', hL, e1, e2, ⟨u, hp, hb, hF⟩, hce, hcv, hcl, st⟩
  · cases hv
    obtain ⟨k1, k2, k3⟩ := vx_keep h0 e1 hS hA hf hL hF
    obtain ⟨t2, a1, b1⟩ := kk r u t T'.heap (locs ++ L) e1.symm (by rw [← e2]; exact X'.warmed.alike) hp hb k1 k2 k3 T' rfl X'
    exact ⟨t2, st t2 a1, b1⟩
  · obtain ⟨k1, k2, k3⟩ := vx_keep h0 e1 hS hAX hf hL hF
    obtain ⟨t2, a1, b1⟩ := kx E ce q u t T'.heap (locs ++ L) e1.symm (by rw [← e2]; exact X'.warmed.alike) hp hb k1 k2 k3 (by rw [e1]; exact hce) hcv hcl T' rfl X'
    exact ⟨t2, st.trans a1, b1⟩
theorem vx_calld {S SX : Type} {post : UInt64 → S → Prop} {px : SX → Prop} {B : S → State → Prop} {BX : String → SX → State → Prop} {AX : Nat → Prop} (hr : vx_Run p l e R s m args below meth c H locs cells slots mc ms (F0 m pc ls st0) rest (va_Qd post B A1 a) (vx_X px BX AX) free) (hS : va_S A0 H0 H locs) (hA : ∀ q, q < H.size → A1 q → A0 q) (hf : ∀ q, free q → A0 q) (hAX : ∀ q, q < H.size → AX q → A0 q)
    (kx : ∀ (E : String) (ce : Cell) (q9 : Addr) (u : SX) (t : State) (H1 : Heap) (locs1 : List Loc), t.heap = H1 → s.vm.Alike t.vm → px u → BX E u t → H.size ≤ H1.size → (∀ q : Nat, q < H.size → ¬ AX q → H1[q]? = H[q]?) → va_S A0 H0 H1 locs1 → H1[q9]? = some ce → ce.vm = .none → s.vm.findClass E = some ce.cls → vx_W p l e R s m args below meth c H1 locs1 (cells + mc) (slots + ms) Q (F0 m pc ls rest) q9)
    (kk : ∀ (r : UInt64) (u : S) (t : State) (H1 : Heap) (locs1 : List Loc), t.heap = H1 → s.vm.Alike t.vm → post r u → B u t → H.size ≤ H1.size → (∀ q : Nat, q < H.size → ¬ A1 q → H1[q]? = H[q]?) → va_S A0 H0 H1 locs1 → W p l e R s m args below meth c H1 locs1 (cells + mc) (slots + ms) Q (F0 m (pc + 3) ls (.double r :: rest))) : W p l e R s m args below meth c H locs cells slots Q (F0 m pc ls st0) := by
  intro T hT X
  rcases hr T hT X with ⟨v, st₀, t, T', L, h0, X', hL, e1, e2, ⟨⟨r, u, hv, hp, hb⟩, hF⟩, st⟩ | ⟨q, st₀, t, T', L, E, ce, h0, X', hL, e1, e2, ⟨u, hp, hb, hF⟩, hce, hcv, hcl, st⟩
  · cases hv
    obtain ⟨k1, k2, k3⟩ := vx_keep h0 e1 hS hA hf hL hF
    obtain ⟨t2, a1, b1⟩ := kk r u t T'.heap (locs ++ L) e1.symm (by rw [← e2]; exact X'.warmed.alike) hp hb k1 k2 k3 T' rfl X'
    exact ⟨t2, st t2 a1, b1⟩
  · obtain ⟨k1, k2, k3⟩ := vx_keep h0 e1 hS hAX hf hL hF
    obtain ⟨t2, a1, b1⟩ := kx E ce q u t T'.heap (locs ++ L) e1.symm (by rw [← e2]; exact X'.warmed.alike) hp hb k1 k2 k3 (by rw [e1]; exact hce) hcv hcl T' rfl X'
    exact ⟨t2, st.trans a1, b1⟩
theorem vx_callv {S SX : Type} {post : S → Prop} {px : SX → Prop} {B : S → State → Prop} {BX : String → SX → State → Prop} {AX : Nat → Prop} (hr : vx_Run p l e R s m args below meth c H locs cells slots mc ms (F0 m pc ls st0) rest (va_Qv post B A1 a) (vx_X px BX AX) free) (hS : va_S A0 H0 H locs) (hA : ∀ q, q < H.size → A1 q → A0 q) (hf : ∀ q, free q → A0 q) (hAX : ∀ q, q < H.size → AX q → A0 q)
    (kx : ∀ (E : String) (ce : Cell) (q9 : Addr) (u : SX) (t : State) (H1 : Heap) (locs1 : List Loc), t.heap = H1 → s.vm.Alike t.vm → px u → BX E u t → H.size ≤ H1.size → (∀ q : Nat, q < H.size → ¬ AX q → H1[q]? = H[q]?) → va_S A0 H0 H1 locs1 → H1[q9]? = some ce → ce.vm = .none → s.vm.findClass E = some ce.cls → vx_W p l e R s m args below meth c H1 locs1 (cells + mc) (slots + ms) Q (F0 m pc ls rest) q9)
    (kk : ∀ (u : S) (t : State) (H1 : Heap) (locs1 : List Loc), t.heap = H1 → s.vm.Alike t.vm → post u → B u t → H.size ≤ H1.size → (∀ q : Nat, q < H.size → ¬ A1 q → H1[q]? = H[q]?) → va_S A0 H0 H1 locs1 → W p l e R s m args below meth c H1 locs1 (cells + mc) (slots + ms) Q (F0 m (pc + 3) ls (rest))) : W p l e R s m args below meth c H locs cells slots Q (F0 m pc ls st0) := by
  intro T hT X
  rcases hr T hT X with ⟨v, st₀, t, T', L, h0, X', hL, e1, e2, ⟨⟨u, hv, hp, hb⟩, hF⟩, st⟩ | ⟨q, st₀, t, T', L, E, ce, h0, X', hL, e1, e2, ⟨u, hp, hb, hF⟩, hce, hcv, hcl, st⟩
  · cases hv
    obtain ⟨k1, k2, k3⟩ := vx_keep h0 e1 hS hA hf hL hF
    obtain ⟨t2, a1, b1⟩ := kk u t T'.heap (locs ++ L) e1.symm (by rw [← e2]; exact X'.warmed.alike) hp hb k1 k2 k3 T' rfl X'
    exact ⟨t2, st t2 a1, b1⟩
  · obtain ⟨k1, k2, k3⟩ := vx_keep h0 e1 hS hAX hf hL hF
    obtain ⟨t2, a1, b1⟩ := kx E ce q u t T'.heap (locs ++ L) e1.symm (by rw [← e2]; exact X'.warmed.alike) hp hb k1 k2 k3 (by rw [e1]; exact hce) hcv hcl T' rfl X'
    exact ⟨t2, st.trans a1, b1⟩
/-- caught by the row x of this method's table; the rows ahead don't take it -/
theorem vx_catch {own name : String} {E : String} {ce : Cell} {q : Addr} (hown : s.vm.findClass own = some m.cls) (pre : List ExceptionTableEntry) (x : ExceptionTableEntry) (suf : List ExceptionTableEntry) (hsplit : c.exceptionTable.toList = pre ++ x :: suf)
    (hpass : ∀ z ∈ pre, covers z pc = false ∨ (z.catchType ≠ 0 ∧ ∃ nm : String, (Cond.classLink own z.catchType nm).before args s = true ∧ va_Nc E nm s)) (hx : covers x pc = true) (h0 : x.catchType ≠ 0)
    (hlink : (Cond.classLink own x.catchType name).before args s = true) (hcast : (Cond.castable E name).before args s = true) (hcell : H[q]? = some ce) (hv : ce.vm = .none) (hcl : s.vm.findClass E = some ce.cls)
    (kk : W p l e R s m args below meth c H locs cells slots Q (F0 m x.handlerPc ls [.ref q])) : vx_W p l e R s m args below meth c H locs cells slots Q (F0 m pc ls rest) q := by
  intro T hT X
  have hpl : e.platform.magicAccessors = ({} : Platform).magicAccessors := by rw [X.admits.platform]
  obtain ⟨c3, c4, hc3, hc4, hasg⟩ := Cond.castable_spec hcast
  cases Option.some.inj (hc3.symm.trans hcl)
  obtain ⟨c5, hc5, hcl5⟩ := Cond.classLink_spec hown hlink e.platform hpl
  cases Option.some.inj (hc4.symm.trans hc5)
  obtain ⟨vm', X', st⟩ := X.thenCaughtThrough q (g := F0 m pc ls rest) rfl (Steps.refl _) (by rw [hT]; exact hcell) (by rw [hv]; rfl) (by obtain ⟨k9, h9, -⟩ := Vm.findClass_spec hcl; exact ⟨k9, h9⟩) pre x suf hsplit
    (fun z hz => by
      rcases hpass z hz with h | ⟨hz0, nm, hl1, hn1⟩
      · exact Or.inl h
      · obtain ⟨c6, hc6, hcl6⟩ := Cond.classLink_spec hown hl1 e.platform hpl
        obtain ⟨a8, b8, h1, h2, h3⟩ := hn1
        cases Option.some.inj (h1.symm.trans hcl)
        cases Option.some.inj (h2.symm.trans hc6)
        exact Or.inr ⟨hz0, _, hcl6, h3⟩) hx (Or.inr ⟨h0, c4, hcl5, hasg⟩)
  obtain ⟨t, a1, b1⟩ := kk (T.setVm vm') hT X'
  exact ⟨t, st.trans a1, b1⟩
end Rows
section Ends
variable {p : Program} {l : Launch} {e : Env} {R : Room} {s : State} {m : MethodId} {args : Array Value} {below : List Frame} {meth : Method} {c : Code} {H : Heap} {locs : List Loc} {cells slots : Nat} {Q : State → Prop}
variable {mc ms : Nat} {free : Addr → Prop} {A0 A1 : Nat → Prop} {H0 : Heap} {a : Array Value} {ls : Array Slot} {st0 rest : List Value}
variable {Qc : Array Value → State → Outcome → State → Prop} {XC : String → State → State → Prop}
/-- what a body that may throw owes at its end -/
def vx_MQ (below : List Frame) (Qc : Array Value → State → Outcome → State → Prop) (XC : String → State → State → Prop) (a : Array Value) (s : State) (mc ms : Nat) (free : Addr → Prop) : State → Prop := fun t =>
  ∃ o, t.status = .running ∧ Ended t below o ∧ vx_Q Qc XC mc ms free a s o t
theorem vx_ret {g : JFrame} {mc ms : Nat} (k : W p l e R s m args below meth c H locs cells slots (MQ below Qc args s mc ms free) g) : W p l e R s m args below meth c H locs cells slots (vx_MQ below Qc XC args s mc ms free) g := by
  intro T hT X
  obtain ⟨t, a1, o, b1, b2, b3, b4⟩ := k T hT X
  exact ⟨t, a1, o, b1, b2, Or.inl ⟨b3, b4⟩⟩
/-- not caught here: it goes on to the caller -/
theorem vx_widen {g : JFrame} {q : Addr} {k n : Nat} (h1 : cells ≤ k) (h2 : slots ≤ n) (kk : vx_W p l e R s m args below meth c H locs k n Q g q) : vx_W p l e R s m args below meth c H locs cells slots Q g q := fun T hT X => kk T hT (stand_widen X h1 h2)
theorem vx_out {pc : Nat} {E : String} {ce : Cell} {q : Addr} {mc ms : Nat} (hout : ∀ x ∈ c.exceptionTable.toList, covers x pc = false) (hlocks : meth.locks = false) (hcell : H[q]? = some ce) (hv : ce.vm = .none) (hcl : s.vm.findClass E = some ce.cls)
    (hx : ∀ t : State, t.heap = H → s.vm.Alike t.vm → XC E s t) (hf : ∀ z ∈ locs, free z.base) (hc : cells ≤ mc) (hs : slots ≤ ms) :
    vx_W p l e R s m args below meth c H locs cells slots (vx_MQ below Qc XC args s mc ms free) (F0 m pc ls rest) q := by
  intro T hT X
  obtain ⟨st1, hrun, hend, hW, hsm⟩ := X.leaveThrown q (g := F0 m pc ls rest) rfl rfl rfl hout hlocks
  have hcell9 : (T.setFrames (.throwing q :: below)).heap[q]? = some ce := by
    show T.heap[q]? = some ce
    rw [hT]; exact hcell
  exact ⟨_, st1, .threw q, hrun, hend, Or.inr ⟨q, rfl, E, ce, locs, hx _ hT hW.alike, hcell9, hv, hcl, hW, hsm.mono hc hs, hf⟩⟩
theorem vx_frame {U : State} {k n : Nat} (h : s.sameButNew ({ U with vm := s.vm } : State) locs k n) : s.heap.size ≤ U.heap.size ∧ ∀ q : Nat, q < s.heap.size → (∀ z ∈ locs, z.base ≠ q) → U.heap[q]? = s.heap[q]? := by
  obtain ⟨-, h2, -, -, -, h6⟩ := h
  refine ⟨h2, fun q hq hz => ?_⟩
  obtain ⟨c9, e1, e2, e3, e4⟩ := h6 q _ (Array.getElem?_eq_getElem hq)
  have hs : c9.slots = (s.heap[q]).slots := Array.ext_getElem? fun i => e4 i fun hm => hz _ hm rfl
  have h9 : c9 = s.heap[q] := by
    rw [hs] at e2
    exact e2
  have e5 : U.heap[q]? = some c9 := e1
  rw [e5, h9, Array.getElem?_eq_getElem hq]
/-- the words of a throw but the four that speak of the heap -/
def vx_no (w : Cond) : Bool := decide (w ≠ .isRef (.static Bundle.tN "UNASSIGNED_STACK" Bundle.steD)) && decide (w ≠ .isRef (.static Bundle.tN "SUPPRESSED_SENTINEL" Bundle.listD)) && decide (w ≠ .laysStatic Bundle.tN "UNASSIGNED_STACK" Bundle.steD) && decide (w ≠ .laysStatic Bundle.tN "SUPPRESSED_SENTINEL" Bundle.listD)
def vx_at0 (own : String) (ic : Nat) (X : String) (names : List String) : List Cond := (Bundle.ownAtoms0 own ic X names).filter vx_no
def vx_atS (own : String) (ic : Nat) (X : String) (names : List String) : List Cond := (Bundle.ownAtoms own ic X names).filter vx_no
/-- a word that the tables alone decide, or a good one -/
def vx_ot (w : Cond) : Bool := w.onTables || goodWord w
theorem vx_ot_at {args a' : Array Value} {s U : State} {w : Cond} (hW : s.WarmedH U.vm) (hvm : s.vm = U.vm) (hg : vx_ot w = true) (h : w.before args s = true) : w.before a' U = true := by
  simp only [vx_ot, Bool.or_eq_true] at hg
  rcases hg with hg | hg
  · exact va_tabs hg hvm h
  · exact word_at hW (good_of_word hg) h
/-- a list's words: the good ones out of the method's own list, the others by premises of their own -/
theorem vx_hat {args : Array Value} {s : State} {L B : List Cond} (h1 : ∀ w ∈ L.filter goodWord, w.before args s = true) (h2 : ∀ w ∈ L.filter (fun w => !goodWord w), w ∈ B) (h3 : ∀ w ∈ B, w.before args s = true) : ∀ w ∈ L, w.before args s = true := by
  intro w hw
  by_cases g : goodWord w = true
  · exact h1 w (List.mem_filter.mpr ⟨hw, g⟩)
  · refine h3 w (h2 w (List.mem_filter.mpr ⟨hw, ?_⟩))
    show (!goodWord w) = true
    cases hgw : goodWord w
    · rfl
    · exact absurd hgw g
theorem vx_c {args : Array Value} {s : State} {w : Cond} {B : List Cond} (h : w.before args s = true) (t : ∀ w ∈ B, w.before args s = true) : ∀ w' ∈ w :: B, w'.before args s = true := fun w' h' => (List.mem_cons.mp h').elim (fun e => by rw [e]; exact h) (t w')
theorem vx_n {args : Array Value} {s : State} : ∀ w ∈ ([] : List Cond), w.before args s = true := fun _ h => nomatch h
theorem vx_own {args : Array Value} {s : State} {L : List Cond} (h1 : ∀ w ∈ L.filter vx_no, w.before args s = true)
    (hU : (Cond.isRef (.static Bundle.tN "UNASSIGNED_STACK" Bundle.steD)).before args s = true) (hN : (Cond.isRef (.static Bundle.tN "SUPPRESSED_SENTINEL" Bundle.listD)).before args s = true)
    (lU : (Cond.laysStatic Bundle.tN "UNASSIGNED_STACK" Bundle.steD).before args s = true) (lN : (Cond.laysStatic Bundle.tN "SUPPRESSED_SENTINEL" Bundle.listD).before args s = true) : ∀ w ∈ L, w.before args s = true := by
  intro w hw
  by_cases e1 : w = .isRef (.static Bundle.tN "UNASSIGNED_STACK" Bundle.steD)
  · rw [e1]; exact hU
  · by_cases e2 : w = .isRef (.static Bundle.tN "SUPPRESSED_SENTINEL" Bundle.listD)
    · rw [e2]; exact hN
    · by_cases e3 : w = .laysStatic Bundle.tN "UNASSIGNED_STACK" Bundle.steD
      · rw [e3]; exact lU
      · by_cases e4 : w = .laysStatic Bundle.tN "SUPPRESSED_SENTINEL" Bundle.listD
        · rw [e4]; exact lN
        · exact h1 w (List.mem_filter.mpr ⟨hw, by unfold vx_no; rw [decide_eq_true e1, decide_eq_true e2, decide_eq_true e3, decide_eq_true e4]; rfl⟩)
/-- where a static field lies, its class's statics cell in H -/
def vx_L (C n d : String) (A : Nat → Prop) (U : State) (H : Heap) : Prop := ∃ (c : ClassId) (k : Class) (i : Nat) (f : Field) (a : Nat) (cell : Cell), U.vm.findClass C = some c ∧ U.fieldFound? C n d = some (c, k, i, f) ∧ f.isStatic = true ∧ k.statics = some a ∧ H[a]? = some cell ∧ cell.vm.isStatics = true ∧ cell.cls = c ∧ f.slot < cell.slots.size ∧ k.staticTypes[f.slot]? = some f.type ∧ ¬ A a
theorem vx_L.moved {C n d : String} {A : Nat → Prop} {u U : State} {H : Heap} (hvm : u.vm.Alike U.vm) (h : vx_L C n d A u H) : vx_L C n d A U H := by
  obtain ⟨c, k, i, f, a, cell, h1, h2, h3, h4, h5, h6, h7, h8, h9, h10⟩ := h
  obtain ⟨k', hi', he⟩ := State.fieldFound?_setVm hvm h2
  exact ⟨c, k', i, f, a, cell, by rw [hvm.findClass]; exact h1, hi', h3, by rw [he]; exact h4, h5, h6, h7, h8, by rw [he]; exact h9, h10⟩
theorem vx_L.kept {C n d : String} {A : Nat → Prop} {U : State} {H H1 : Heap} (h : vx_L C n d A U H) (hq : ∀ a : Nat, a < H.size → ¬ A a → H1[a]? = H[a]?) : vx_L C n d A U H1 := by
  obtain ⟨c, k, i, f, a, cell, h1, h2, h3, h4, h5, h6, h7, h8, h9, h10⟩ := h
  exact ⟨c, k, i, f, a, cell, h1, h2, h3, h4, by rw [hq a (Array.getElem?_eq_some_iff.mp h5).1 h10]; exact h5, h6, h7, h8, h9, h10⟩
theorem vx_L.narrow {C n d : String} {A B : Nat → Prop} {U : State} {H : Heap} (h : vx_L C n d A U H) (hAB : ∀ q, B q → A q) : vx_L C n d B U H := by
  obtain ⟨c, k, i, f, a, cell, h1, h2, h3, h4, h5, h6, h7, h8, h9, h10⟩ := h
  exact ⟨c, k, i, f, a, cell, h1, h2, h3, h4, h5, h6, h7, h8, h9, fun z => h10 (hAB _ z)⟩
theorem vx_L.word {C n d : String} {A : Nat → Prop} {s : State} {args : Array Value} (h : vx_L C n d A s s.heap) : (Cond.laysStatic C n d).before args s = true := by
  obtain ⟨c, k, i, f, a, cell, h1, h2, h3, h4, h5, h6, h7, h8, h9, -⟩ := h
  show (Cond.laysStatic C n d).holds args s none s [] = true
  exact Cond.laysStatic_of h1 h2 h3 h4 h5 h6 h7 h8 h9
/-- .. and what it holds: null or some reference -/
def vx_Zq (C n d : String) (A : Nat → Prop) (U : State) (H : Heap) : Prop := va_Zq C n d A U H ∧ vx_L C n d A U H
theorem vx_Zq.moved {C n d : String} {A : Nat → Prop} {u U : State} {H : Heap} (hvm : u.vm.Alike U.vm) (h : vx_Zq C n d A u H) : vx_Zq C n d A U H := ⟨va_Zq.moved hvm h.1, vx_L.moved hvm h.2⟩
theorem vx_Zq.kept {C n d : String} {A : Nat → Prop} {U : State} {H H1 : Heap} (h : vx_Zq C n d A U H) (hq : ∀ a : Nat, a < H.size → ¬ A a → H1[a]? = H[a]?) : vx_Zq C n d A U H1 := ⟨va_Zq.kept h.1 hq, vx_L.kept h.2 hq⟩
theorem vx_Zq.narrow {C n d : String} {A B : Nat → Prop} {U : State} {H : Heap} (h : vx_Zq C n d A U H) (hAB : ∀ q, B q → A q) : vx_Zq C n d B U H := ⟨va_Zq.narrow h.1 hAB, vx_L.narrow h.2 hAB⟩
theorem vx_Zqof {args : Array Value} {s : State} {C n d : String} {A : Nat → Prop} (hl : (Cond.laysStatic C n d).before args s = true) (hini : (Cond.initialized C).before args s = true) (h : (Cond.isRef (.static C n d)).before args s = true) (hA : ∀ a : Nat, a < s.heap.size → ¬ A a) : vx_Zq C n d A s s.heap := by
  refine ⟨va_Zqof hl hini h hA, ?_⟩
  obtain ⟨c, k, i, f, a, cell, h1, h2, h3, h4, h5, h6, h7, h8, h9⟩ := Cond.laysStatic_spec hl
  exact ⟨c, k, i, f, a, cell, h1, h2, h3, h4, h5, h6, h7, h8, h9, hA a (Array.getElem?_eq_some_iff.mp h5).1⟩
theorem vx_isRef {C n d : String} {v : Value} {A : Nat → Prop} {s : State} {args : Array Value} (h : va_Z C n d v A s s.heap) (hv : v.isRef = true) : (Cond.isRef (.static C n d)).before args s = true := by
  obtain ⟨cf, kf, fi, f, a, cell, h1, h2, h3, h4, h5, h6, h7, -⟩ := h
  have he : (Term.static C n d).eval args s none [] s = some v := by
    simp [Term.eval, State.fieldNamed?, h1, h2, h4, h5, h6, h7]
  simp only [Cond.before, Cond.holds, Cond.value, he]
  cases v <;> simp_all [Value.isRef]
theorem vx_isRefq {C n d : String} {A : Nat → Prop} {s : State} {args : Array Value} (h : va_Zq C n d A s s.heap) : (Cond.isRef (.static C n d)).before args s = true := by
  rcases h with h | ⟨t, h⟩
  · exact vx_isRef h rfl
  · exact vx_isRef h rfl
/-- the same frame, seen from here: as if the method were called anew in this heap -/
theorem vx_rebase {T : State} (X : Stand p l e R s m args below meth c T locs cells slots) {R' : Room} (hf : R'.frames ≤ R.frames) (hl : R'.locals ≤ R.locals) (hc : cells + R'.cells ≤ R.cells) (hs : slots + R'.slots ≤ R.slots) :
    Stand p l e R' ((T.setVm s.vm).setFrames (.invoking m args :: below)) m args below meth c T [] 0 0 := by
  have htop : (T.setVm s.vm).topJava?.isSome := X.here.top
  have hF : ((T.setVm s.vm).setFrames (.invoking m args :: below)).frames = .invoking m args :: below := State.frames_setFrames _ (State.cur_lt_of_top htop)
  obtain ⟨g₀, hg0⟩ := Option.isSome_iff_exists.mp htop
  obtain ⟨r, hr⟩ := State.topJava?_eq_some.mp hg0
  have hl9 : e.platform.stackLimits (T.setVm s.vm).me = e.platform.stackLimits s.me := X.limits
  have hb9 : (T.setVm s.vm).me.stackBytes = s.me.stackBytes := X.bytes
  refine ⟨X.admits, X.cas, X.clock, hF, ?_, X.hears, X.method, X.code, X.here, X.tail, X.warmed, ?_, ?_, ?_⟩
  · have h := X.room
    have hU : ((T.setVm s.vm).setFrames (.invoking m args :: below)).localsInUse = s.localsInUse := by
      rw [State.localsInUse_invoking hF (meth := meth) (c := c) X.method X.code, State.localsInUse_invoking X.frames X.method X.code]
    simp only [State.hasRoom, Bool.and_eq_true, decide_eq_true_eq] at h ⊢
    obtain ⟨⟨⟨⟨h1, h2, h3, h4, h5, h6⟩, h7⟩, h8⟩, h9⟩ := h
    rw [X.frames, List.length_cons] at h2 h3
    have q1 := X.heapSize
    have q2 := X.used
    simp only [hF, hU, List.length_cons, State.stackLimits_setFrames, State.stackBytes_setFrames, hl9, hb9]
    refine ⟨⟨⟨⟨by omega, by omega, by omega, by omega, by omega, h6⟩, ?_⟩, ?_⟩, X.book⟩
    · show T.heap.size + R'.cells ≤ e.platform.maxCells
      omega
    · show T.slotsUsed + R'.slots ≤ e.platform.maxSlots
      omega
  · rw [State.stackLimits_setFrames]; rfl
  · rw [State.stackBytes_setFrames]; rfl
  · refine ⟨?_, Nat.le_refl _, Nat.le_refl _, ?_, ?_, fun a c9 h9 => ⟨c9, h9, rfl, rfl, fun _ _ => rfl⟩⟩
    · obtain ⟨t, ht, -⟩ := State.frames_cons hr
      show T.setVm s.vm = { ((T.setVm s.vm).setFrames (.invoking m args :: below)).setFrames (T.setVm s.vm).frames with heap := T.heap, slotsUsed := T.slotsUsed }
      rw [State.setFrames_setFrames, State.setFrames_self ht]
      rfl
    · show T.slotsUsed = T.slotsUsed + ((T.heap.toList.drop T.heap.size).map (·.slots.size)).sum
      rw [List.drop_eq_nil_of_le (Nat.le_of_eq Array.length_toList)]
      rfl
    · show ((T.heap.toList.drop T.heap.size).map (·.slots.size)).sum ≤ 0
      rw [List.drop_eq_nil_of_le (Nat.le_of_eq Array.length_toList)]
      exact Nat.le_refl _
/-- 'throw new E()': new; dup; invokespecial; athrow -/
theorem vx_throw0 {cc : ByteArray} {pc : Nat} (hexec : p.tables.exec = Jvm.exec) (hb : c.code = cc) (hl : l.stackTraces = false) {own cls : String} {names : List String} {ik ic mc ms : Nat} {A : Nat → Prop}
    (hown : s.vm.findClass own = some m.cls) (hcls : Bundle.fit cls = true) (hnames : ∀ n ∈ names, Bundle.fit n = true)
    (hk : (Cond.classLink own ik cls).before args s = true) (hini : (Cond.initialized cls).before args s = true) (hat : ∀ w ∈ vx_at0 own ic cls names, w.before args s = true)
    (hgood : ∀ w ∈ Cond.classLink own ik cls :: Cond.initialized cls :: vx_at0 own ic cls names, vx_ot w = true)
    (hU : vx_Zq Bundle.tN "UNASSIGNED_STACK" Bundle.steD A s s.heap) (hN : vx_Zq Bundle.tN "SUPPRESSED_SENTINEL" Bundle.listD A s s.heap) (hS : va_S A s.heap H locs) (hsize : ls.size = c.maxLocals)
    (d0 : decode cc pc = .ok (.new ik, 3)) (d3 : decode cc (pc + 3) = .ok (.dup, 1)) (d4 : decode cc (pc + 4) = .ok (.invokespecial ic, 3)) (d7 : decode cc (pc + 7) = .ok (.athrow, 1))
    (hout : ∀ x ∈ c.exceptionTable.toList, covers x (pc + 7) = false)
    (hRframes : names.length + 3 < R.frames) (hRlocals : (rest.map fun v => v.category).sum + (13 * (names.length + 1) + 42) ≤ R.locals) (hRcells : cells + 1 ≤ R.cells) (hRslots : slots + 6 ≤ R.slots) (hlocks : meth.locks = false)
    (hx : ∀ t : State, s.vm.Alike t.vm → H.size ≤ t.heap.size → (∀ q : Nat, q < H.size → t.heap[q]? = H[q]?) → XC cls s t)
    (hf : ∀ z ∈ locs, free z.base) (hc : cells + 1 ≤ mc) (hs : slots + 6 ≤ ms) :
    W p l e R s m args below meth c H locs cells slots (vx_MQ below Qc XC args s mc ms free) (F0 m pc ls rest) := by
  intro T hT X
  have htr : e.platform.stackTraces = false := (show e.platform.stackTraces = l.stackTraces by rw [X.admits.platform]).trans hl
  have Y := vx_rebase X (R' := { frames := R.frames, locals := R.locals, cells := 1, slots := 6 }) (Nat.le_refl _) (Nat.le_refl _) hRcells hRslots
  obtain ⟨s', hA⟩ : ∃ z, z = (T.setVm s.vm).setFrames (.invoking m args :: below) := ⟨_, rfl⟩
  rw [← hA] at Y
  have hvm : s'.vm = s.vm := by rw [hA]; rfl
  have hhp : s'.heap = H := by rw [hA]; exact hT
  have hW0 : s.WarmedH s'.vm := by rw [hvm]; exact State.WarmedH.refl s
  have hat' : ∀ w ∈ vx_at0 own ic cls names, w.before args s' = true := fun w hw => vx_ot_at hW0 hvm.symm (hgood w (List.mem_cons_of_mem _ (List.mem_cons_of_mem _ hw))) (hat w hw)
  have hk' : (Cond.classLink own ik cls).before args s' = true := vx_ot_at hW0 hvm.symm (hgood _ List.mem_cons_self) hk
  have hini' : (Cond.initialized cls).before args s' = true := vx_ot_at hW0 hvm.symm (hgood _ (List.mem_cons_of_mem _ List.mem_cons_self)) hini
  have hU' : vx_Zq Bundle.tN "UNASSIGNED_STACK" Bundle.steD A s' s'.heap := by rw [hhp]; exact vx_Zq.moved hW0.alike (hU.kept hS.2.1)
  have hN' : vx_Zq Bundle.tN "SUPPRESSED_SENTINEL" Bundle.listD A s' s'.heap := by rw [hhp]; exact vx_Zq.moved hW0.alike (hN.kept hS.2.1)
  have h : ∀ w ∈ Bundle.ownAtoms0 own ic cls names, w.before args s' = true := vx_own hat' (vx_isRefq hU'.1) (vx_isRefq hN'.1) hU'.2.word hN'.2.word
  have hown' : s'.vm.findClass own = some m.cls := by rw [hvm]; exact hown
  have hins : (Cond.instantiable cls 6).before args s' = true := h _ (by simp [Bundle.ownAtoms0])
  obtain ⟨vm₁, cX, kX, hfX, hkX, -, -, X₁, st1⟩ := Y.newCold hexec (own := own) (C := cls) (index := ik) (n := 6) hown' hk' hins hini'
    (g := F0 m pc ls rest) rfl (by rw [hb]; exact d0) (Nat.le_refl _) (Nat.le_refl _)
  generalize hT1 : (T.setVm vm₁).pushCell { cls := cX, slots := kX.instanceTypes.map defaultValue, vm := .none } = T1 at X₁ st1
  have hcat : (Value.ref T.heap.size).category = 1 := rfl
  have hcellA : T1.heap[T.heap.size]? = some (freshCell cX kX) := by rw [← hT1]; exact State.heap_pushCell_size _ _
  have d3' : decode c.code (pc + 3) = .ok (.dup, 1) := by rw [hb]; exact d3
  obtain ⟨U, hsteps, hrun, hend, hW, hsame, ce, hce, hO⟩ := X₁.ctorThrow0 hexec htr (own := own) (cls := cls) (names := names) (ic := ic) hown' hcls hnames h (fun x hx => nomatch hx) hfX hkX hcellA (by rw [hhp, hT]; exact Nat.le_refl _)
    (g := { method := m, pc := pc + 4, locals := ls, stack := .ref T.heap.size :: .ref T.heap.size :: rest, locked := none }) rfl hsize rfl rfl (rest := rest) rfl
    (by rw [hb]; exact d4) (by rw [hb]; exact d7) hout hRframes (by simp only [List.map_cons, List.sum_cons, hcat]; omega) hlocks
  obtain ⟨f1, f2⟩ := vx_frame hsame
  rw [hhp] at f1 f2
  have hWs : s.WarmedH U.vm := State.WarmedH.trans hW0 hW
  have hcl : s.vm.findClass cls = some ce.cls := by
    have h9 := hO.cls
    rw [hvm] at h9
    exact h9
  have hall : s.sameButNew ({ U with vm := s.vm } : State) locs mc ms := by
    subst hA
    obtain ⟨e1, e2⟩ := hsame
    rw [State.setFrames_setFrames] at e1
    have h2 : (T.setVm s.vm).sameButNew ({ U with vm := s.vm } : State) [] (0 + 1) (0 + 6) := ⟨e1, e2⟩
    have h3 := X.same.trans h2
    rw [List.append_nil] at h3
    exact h3.mono hc hs
  refine ⟨U, ?_, .threw T.heap.size, hrun, hend, Or.inr ⟨T.heap.size, rfl, cls, ce, locs, hx U hWs.alike f1 (fun q hq => f2 q hq (fun z hz => nomatch hz)), hce, hO.vm, hcl, hWs, hall, hf⟩⟩
  refine st1 _ ?_
  show Steps p.tables e below (T1.setTop { method := m, pc := pc + 3, locals := ls, stack := .ref T.heap.size :: rest, locked := none }) _
  jvm_step X₁.here [X₁.here.top, hexec, d3', Value.category]
  exact hsteps
/-- 'throw new E("text")': new; dup; ldc; invokespecial; athrow -/
theorem vx_throwS {cc : ByteArray} {pc : Nat} (hexec : p.tables.exec = Jvm.exec) (hb : c.code = cc) (hl : l.stackTraces = false) {own cls text : String} {names : List String} {ik is ic mc ms sa : Nat} {A : Nat → Prop}
    (hown : s.vm.findClass own = some m.cls) (hcls : Bundle.fit cls = true) (hnames : ∀ n ∈ names, Bundle.fit n = true)
    (hk : (Cond.classLink own ik cls).before args s = true) (hini : (Cond.initialized cls).before args s = true) (hstr : vk_R own is text sa s) (hat : ∀ w ∈ vx_atS own ic cls names, w.before args s = true)
    (hgood : ∀ w ∈ Cond.classLink own ik cls :: Cond.initialized cls :: vx_atS own ic cls names, vx_ot w = true)
    (hU : vx_Zq Bundle.tN "UNASSIGNED_STACK" Bundle.steD A s s.heap) (hN : vx_Zq Bundle.tN "SUPPRESSED_SENTINEL" Bundle.listD A s s.heap) (hS : va_S A s.heap H locs) (hsize : ls.size = c.maxLocals)
    (d0 : decode cc pc = .ok (.new ik, 3)) (d3 : decode cc (pc + 3) = .ok (.dup, 1)) (d4 : decode cc (pc + 4) = .ok (.ldc is, 2)) (d6 : decode cc (pc + 6) = .ok (.invokespecial ic, 3)) (d9 : decode cc (pc + 9) = .ok (.athrow, 1))
    (hout : ∀ x ∈ c.exceptionTable.toList, covers x (pc + 9) = false)
    (hRframes : names.length + 3 < R.frames) (hRlocals : (rest.map fun v => v.category).sum + (13 * (names.length + 1) + 43) ≤ R.locals) (hRcells : cells + 1 ≤ R.cells) (hRslots : slots + 6 ≤ R.slots) (hlocks : meth.locks = false)
    (hx : ∀ t : State, s.vm.Alike t.vm → H.size ≤ t.heap.size → (∀ q : Nat, q < H.size → t.heap[q]? = H[q]?) → XC cls s t)
    (hf : ∀ z ∈ locs, free z.base) (hc : cells + 1 ≤ mc) (hs : slots + 6 ≤ ms) :
    W p l e R s m args below meth c H locs cells slots (vx_MQ below Qc XC args s mc ms free) (F0 m pc ls rest) := by
  intro T hT X
  have htr : e.platform.stackTraces = false := (show e.platform.stackTraces = l.stackTraces by rw [X.admits.platform]).trans hl
  have Y := vx_rebase X (R' := { frames := R.frames, locals := R.locals, cells := 1, slots := 6 }) (Nat.le_refl _) (Nat.le_refl _) hRcells hRslots
  obtain ⟨s', hA⟩ : ∃ z, z = (T.setVm s.vm).setFrames (.invoking m args :: below) := ⟨_, rfl⟩
  rw [← hA] at Y
  have hvm : s'.vm = s.vm := by rw [hA]; rfl
  have hhp : s'.heap = H := by rw [hA]; exact hT
  have hW0 : s.WarmedH s'.vm := by rw [hvm]; exact State.WarmedH.refl s
  have hat' : ∀ w ∈ vx_atS own ic cls names, w.before args s' = true := fun w hw => vx_ot_at hW0 hvm.symm (hgood w (List.mem_cons_of_mem _ (List.mem_cons_of_mem _ hw))) (hat w hw)
  have hk' : (Cond.classLink own ik cls).before args s' = true := vx_ot_at hW0 hvm.symm (hgood _ List.mem_cons_self) hk
  have hini' : (Cond.initialized cls).before args s' = true := vx_ot_at hW0 hvm.symm (hgood _ (List.mem_cons_of_mem _ List.mem_cons_self)) hini
  have hU' : vx_Zq Bundle.tN "UNASSIGNED_STACK" Bundle.steD A s' s'.heap := by rw [hhp]; exact vx_Zq.moved hW0.alike (hU.kept hS.2.1)
  have hN' : vx_Zq Bundle.tN "SUPPRESSED_SENTINEL" Bundle.listD A s' s'.heap := by rw [hhp]; exact vx_Zq.moved hW0.alike (hN.kept hS.2.1)
  have h : ∀ w ∈ Bundle.ownAtoms own ic cls names, w.before args s' = true := vx_own hat' (vx_isRefq hU'.1) (vx_isRefq hN'.1) hU'.2.word hN'.2.word
  have hown' : s'.vm.findClass own = some m.cls := by rw [hvm]; exact hown
  have hins : (Cond.instantiable cls 6).before args s' = true := h _ (by simp [Bundle.ownAtoms])
  obtain ⟨vm₁, cX, kX, hfX, hkX, -, -, X₁, st1⟩ := Y.newCold hexec (own := own) (C := cls) (index := ik) (n := 6) hown' hk' hins hini'
    (g := F0 m pc ls rest) rfl (by rw [hb]; exact d0) (Nat.le_refl _) (Nat.le_refl _)
  generalize hT1 : (T.setVm vm₁).pushCell { cls := cX, slots := kX.instanceTypes.map defaultValue, vm := .none } = T1 at X₁ st1
  have hcat : (Value.ref T.heap.size).category = 1 := rfl
  have hcellA : T1.heap[T.heap.size]? = some (freshCell cX kX) := by rw [← hT1]; exact State.heap_pushCell_size _ _
  have d3' : decode c.code (pc + 3) = .ok (.dup, 1) := by rw [hb]; exact d3
  have d4' : decode c.code (pc + 4) = .ok (.ldc is, 2) := by rw [hb]; exact d4
  have hstr' : vk_R own is text sa s' := vk_R.warm hW0 hstr
  obtain ⟨U, hsteps, hrun, hend, hW, hsame, ce, hce, hO⟩ := X₁.ctorThrowS hexec htr (own := own) (cls := cls) (names := names) (ic := ic) hown' hcls hnames h (fun x hx => nomatch hx) hfX hkX hcellA (by rw [hhp, hT]; exact Nat.le_refl _) (msg := .ref sa) rfl
    (g := { method := m, pc := pc + 6, locals := ls, stack := .ref sa :: .ref T.heap.size :: .ref T.heap.size :: rest, locked := none }) rfl hsize rfl rfl (rest := rest) rfl
    (by rw [hb]; exact d6) (by rw [hb]; exact d9) hout hRframes (by simp only [List.map_cons, List.sum_cons, hcat]; omega) hlocks
  obtain ⟨f1, f2⟩ := vx_frame hsame
  rw [hhp] at f1 f2
  have hWs : s.WarmedH U.vm := State.WarmedH.trans hW0 hW
  have hcl : s.vm.findClass cls = some ce.cls := by
    have h9 := hO.cls
    rw [hvm] at h9
    exact h9
  have hall : s.sameButNew ({ U with vm := s.vm } : State) locs mc ms := by
    subst hA
    obtain ⟨e1, e2⟩ := hsame
    rw [State.setFrames_setFrames] at e1
    have h2 : (T.setVm s.vm).sameButNew ({ U with vm := s.vm } : State) [] (0 + 1) (0 + 6) := ⟨e1, e2⟩
    have h3 := X.same.trans h2
    rw [List.append_nil] at h3
    exact h3.mono hc hs
  refine ⟨U, ?_, .threw T.heap.size, hrun, hend, Or.inr ⟨T.heap.size, rfl, cls, ce, locs, hx U hWs.alike f1 (fun q hq => f2 q hq (fun z hz => nomatch hz)), hce, hO.vm, hcl, hWs, hall, hf⟩⟩
  refine st1 _ ?_
  show Steps p.tables e below (T1.setTop { method := m, pc := pc + 3, locals := ls, stack := .ref T.heap.size :: rest, locked := none }) _
  jvm_step X₁.here [X₁.here.top, hexec, d3', Value.category]
  exact X₁.ldcString hexec (own := own) (text := text) (index := is) (a := sa) hown' hstr'.1 hstr'.2
    (g := { method := m, pc := pc + 4, locals := ls, stack := .ref T.heap.size :: .ref T.heap.size :: rest, locked := none }) rfl d4' _ hsteps
/-- 'throw new E("text")', the text by a wide index -/
theorem vx_throwSW {cc : ByteArray} {pc : Nat} (hexec : p.tables.exec = Jvm.exec) (hb : c.code = cc) (hl : l.stackTraces = false) {own cls text : String} {names : List String} {ik is ic mc ms sa : Nat} {A : Nat → Prop}
    (hown : s.vm.findClass own = some m.cls) (hcls : Bundle.fit cls = true) (hnames : ∀ n ∈ names, Bundle.fit n = true)
    (hk : (Cond.classLink own ik cls).before args s = true) (hini : (Cond.initialized cls).before args s = true) (hstr : vk_R own is text sa s) (hat : ∀ w ∈ vx_atS own ic cls names, w.before args s = true)
    (hgood : ∀ w ∈ Cond.classLink own ik cls :: Cond.initialized cls :: vx_atS own ic cls names, vx_ot w = true)
    (hU : vx_Zq Bundle.tN "UNASSIGNED_STACK" Bundle.steD A s s.heap) (hN : vx_Zq Bundle.tN "SUPPRESSED_SENTINEL" Bundle.listD A s s.heap) (hS : va_S A s.heap H locs) (hsize : ls.size = c.maxLocals)
    (d0 : decode cc pc = .ok (.new ik, 3)) (d3 : decode cc (pc + 3) = .ok (.dup, 1)) (d4 : decode cc (pc + 4) = .ok (.ldc_w is, 3)) (d7 : decode cc (pc + 7) = .ok (.invokespecial ic, 3)) (d10 : decode cc (pc + 10) = .ok (.athrow, 1))
    (hout : ∀ x ∈ c.exceptionTable.toList, covers x (pc + 10) = false)
    (hRframes : names.length + 3 < R.frames) (hRlocals : (rest.map fun v => v.category).sum + (13 * (names.length + 1) + 43) ≤ R.locals) (hRcells : cells + 1 ≤ R.cells) (hRslots : slots + 6 ≤ R.slots) (hlocks : meth.locks = false)
    (hx : ∀ t : State, s.vm.Alike t.vm → H.size ≤ t.heap.size → (∀ q : Nat, q < H.size → t.heap[q]? = H[q]?) → XC cls s t)
    (hf : ∀ z ∈ locs, free z.base) (hc : cells + 1 ≤ mc) (hs : slots + 6 ≤ ms) :
    W p l e R s m args below meth c H locs cells slots (vx_MQ below Qc XC args s mc ms free) (F0 m pc ls rest) := by
  intro T hT X
  have htr : e.platform.stackTraces = false := (show e.platform.stackTraces = l.stackTraces by rw [X.admits.platform]).trans hl
  have Y := vx_rebase X (R' := { frames := R.frames, locals := R.locals, cells := 1, slots := 6 }) (Nat.le_refl _) (Nat.le_refl _) hRcells hRslots
  obtain ⟨s', hA⟩ : ∃ z, z = (T.setVm s.vm).setFrames (.invoking m args :: below) := ⟨_, rfl⟩
  rw [← hA] at Y
  have hvm : s'.vm = s.vm := by rw [hA]; rfl
  have hhp : s'.heap = H := by rw [hA]; exact hT
  have hW0 : s.WarmedH s'.vm := by rw [hvm]; exact State.WarmedH.refl s
  have hat' : ∀ w ∈ vx_atS own ic cls names, w.before args s' = true := fun w hw => vx_ot_at hW0 hvm.symm (hgood w (List.mem_cons_of_mem _ (List.mem_cons_of_mem _ hw))) (hat w hw)
  have hk' : (Cond.classLink own ik cls).before args s' = true := vx_ot_at hW0 hvm.symm (hgood _ List.mem_cons_self) hk
  have hini' : (Cond.initialized cls).before args s' = true := vx_ot_at hW0 hvm.symm (hgood _ (List.mem_cons_of_mem _ List.mem_cons_self)) hini
  have hU' : vx_Zq Bundle.tN "UNASSIGNED_STACK" Bundle.steD A s' s'.heap := by rw [hhp]; exact vx_Zq.moved hW0.alike (hU.kept hS.2.1)
  have hN' : vx_Zq Bundle.tN "SUPPRESSED_SENTINEL" Bundle.listD A s' s'.heap := by rw [hhp]; exact vx_Zq.moved hW0.alike (hN.kept hS.2.1)
  have h : ∀ w ∈ Bundle.ownAtoms own ic cls names, w.before args s' = true := vx_own hat' (vx_isRefq hU'.1) (vx_isRefq hN'.1) hU'.2.word hN'.2.word
  have hown' : s'.vm.findClass own = some m.cls := by rw [hvm]; exact hown
  have hins : (Cond.instantiable cls 6).before args s' = true := h _ (by simp [Bundle.ownAtoms])
  obtain ⟨vm₁, cX, kX, hfX, hkX, -, -, X₁, st1⟩ := Y.newCold hexec (own := own) (C := cls) (index := ik) (n := 6) hown' hk' hins hini'
    (g := F0 m pc ls rest) rfl (by rw [hb]; exact d0) (Nat.le_refl _) (Nat.le_refl _)
  generalize hT1 : (T.setVm vm₁).pushCell { cls := cX, slots := kX.instanceTypes.map defaultValue, vm := .none } = T1 at X₁ st1
  have hcat : (Value.ref T.heap.size).category = 1 := rfl
  have hcellA : T1.heap[T.heap.size]? = some (freshCell cX kX) := by rw [← hT1]; exact State.heap_pushCell_size _ _
  have d3' : decode c.code (pc + 3) = .ok (.dup, 1) := by rw [hb]; exact d3
  have d4' : decode c.code (pc + 4) = .ok (.ldc_w is, 3) := by rw [hb]; exact d4
  have hstr' : vk_R own is text sa s' := vk_R.warm hW0 hstr
  obtain ⟨U, hsteps, hrun, hend, hW, hsame, ce, hce, hO⟩ := X₁.ctorThrowS hexec htr (own := own) (cls := cls) (names := names) (ic := ic) hown' hcls hnames h (fun x hx => nomatch hx) hfX hkX hcellA (by rw [hhp, hT]; exact Nat.le_refl _) (msg := .ref sa) rfl
    (g := { method := m, pc := pc + 7, locals := ls, stack := .ref sa :: .ref T.heap.size :: .ref T.heap.size :: rest, locked := none }) rfl hsize rfl rfl (rest := rest) rfl
    (by rw [hb]; exact d7) (by rw [hb]; exact d10) hout hRframes (by simp only [List.map_cons, List.sum_cons, hcat]; omega) hlocks
  obtain ⟨f1, f2⟩ := vx_frame hsame
  rw [hhp] at f1 f2
  have hWs : s.WarmedH U.vm := State.WarmedH.trans hW0 hW
  have hcl : s.vm.findClass cls = some ce.cls := by
    have h9 := hO.cls
    rw [hvm] at h9
    exact h9
  have hall : s.sameButNew ({ U with vm := s.vm } : State) locs mc ms := by
    subst hA
    obtain ⟨e1, e2⟩ := hsame
    rw [State.setFrames_setFrames] at e1
    have h2 : (T.setVm s.vm).sameButNew ({ U with vm := s.vm } : State) [] (0 + 1) (0 + 6) := ⟨e1, e2⟩
    have h3 := X.same.trans h2
    rw [List.append_nil] at h3
    exact h3.mono hc hs
  refine ⟨U, ?_, .threw T.heap.size, hrun, hend, Or.inr ⟨T.heap.size, rfl, cls, ce, locs, hx U hWs.alike f1 (fun q hq => f2 q hq (fun z hz => nomatch hz)), hce, hO.vm, hcl, hWs, hall, hf⟩⟩
  refine st1 _ ?_
  show Steps p.tables e below (T1.setTop { method := m, pc := pc + 3, locals := ls, stack := .ref T.heap.size :: rest, locked := none }) _
  jvm_step X₁.here [X₁.here.top, hexec, d3', Value.category]
  exact X₁.ldcStringW hexec (own := own) (text := text) (index := is) (a := sa) hown' hstr'.1 hstr'.2
    (g := { method := m, pc := pc + 4, locals := ls, stack := .ref T.heap.size :: .ref T.heap.size :: rest, locked := none }) rfl d4' _ hsteps
end Ends
section Bodies
variable {l : Launch}
theorem vx_ofW {y : MethodName} {ws ws' : List Cond} {rm : Room} {Pc : Array Value → State → Prop} {Qc : Array Value → State → Outcome → State → Prop} {XC : String → State → State → Prop} {mc ms : Nat} {free : Addr → Prop} {cc : ByteArray} {maxL : Nat} {ret : Option FieldType}
    (hy : plainName y.cls = true) (hw : ws = Cond.code y cc maxL ret :: ws')
    (body : ∀ p e s m args below meth c s₁, BodyLoose p l y (headSpec ws rm) cc maxL ret e s m args below meth c s₁ → c.maxLocals = maxL → (∀ x ∈ c.exceptionTable.toList, False) → Pc args s →
      W p l e (headSpec ws rm).room s m args below meth c s.heap [] 0 0 (vx_MQ below Qc XC args s mc ms free) (entryFrame m args maxL)) : vx_Met l y ws rm Pc Qc XC mc ms free := by
  refine MetFree.of_bodyS (code := cc) (maxLocals := maxL) (ret := ret) hy ?_ ?_
  · intro args s m h hn
    obtain ⟨meth, c, h1, h2, h3, h4, h5, h6, -, -⟩ := Cond.code_spec hn (atoms_spec (ws := ws) h _ (by rw [hw]; exact List.mem_cons_self))
    exact ⟨meth, c, h1, h2, h3, h4, h5, h6⟩
  · intro p e s m args below meth c s₁ B hml hP _
    have hh0 : s₁.heap = s.heap := by rw [B.state]; rfl
    have ht : ∀ x ∈ c.exceptionTable.toList, False := by
      obtain ⟨meth9, c9, h1, h2, -, -, -, -, h7, -⟩ := Cond.code_spec B.named (atoms_spec (ws := ws) B.pre _ (by rw [hw]; exact List.mem_cons_self))
      cases Option.some.inj (h1.symm.trans B.method)
      cases Option.some.inj (h2.symm.trans (Stand.of_body B).code)
      intro x hx
      rw [Array.isEmpty_iff.mp h7] at hx
      cases hx
    obtain ⟨t, a1, o, b1, b2, b3⟩ := body p e s m args below meth c s₁ B hml ht hP s₁ hh0 (Stand.of_body B)
    exact ⟨t, o, a1, b1, b2, b3⟩
/-- the table of a body with handlers -/
theorem vx_table {p : Program} {x y : MethodName} {S : Spec} {cc bytes : ByteArray} {maxL maxL' : Nat} {ret ret' : Option FieldType} {e : Env} {s s₁ : State} {m : MethodId} {args : Array Value} {below : List Frame} {meth : Method} {c : Code} {hh : List (Nat × Nat × Nat × Nat)}
    (B : BodyLoose p l y S cc maxL ret e s m args below meth c s₁) (h : (Cond.codeWith y bytes maxL' ret' hh).before args s = true) : c.exceptionTable.toList = tableOf hh := by
  obtain ⟨m9, meth9, c9, hn9, h1, h2, -, -, h6, -⟩ := Cond.codeWith_spec h
  cases Option.some.inj (hn9.symm.trans B.named)
  cases Option.some.inj (h1.symm.trans B.method)
  cases Option.some.inj (h2.symm.trans (Stand.of_body B).code)
  rw [← h6, table_eq]
end Bodies
end VXA
/-! ===== END ===== -/
/-! ===== BEGIN a static call of a method with an exception table ===== -/
section VXS
variable {p : Program} {l : Launch} {e : Env} {R : Room} {s : State} {m : MethodId} {args : Array Value} {below : List Frame} {meth : Method} {c : Code} {T : State} {H : Heap} {locs : List Loc} {cells slots : Nat}
abbrev vx_CSW (R : Room) (s : State) (args : Array Value) (own : String) (index : Nat) (y : MethodName) (bytes : ByteArray) (maxL : Nat) (ret : Option FieldType) (hh : List (Nat × Nat × Nat × Nat)) (ws : List Cond) (rm : Room) (mc ms n : Nat) : Prop :=
  (rm.cells = mc ∧ rm.slots = ms ∧ rm.frames + 1 ≤ R.frames ∧ 8 + (maxL + 11) + rm.locals ≤ R.locals ∧ (∀ w ∈ ws, ∀ (a' : Array Value) (U : State), s.WarmedH U.vm → w.before a' U = true) ∧ Cond.codeWith y bytes maxL ret hh ∈ ws) ∧
  (Cond.codeWith y bytes maxL ret hh).before args s = true ∧ (Cond.initialized y.cls).before args s = true ∧ (y.cls ≠ "java/lang/invoke/MethodHandle" ∧ y.cls ≠ "java/lang/invoke/VarHandle") ∧
  (∀ sig, parseMethodDescriptor y.desc = some sig → n = sig.parameters.length) ∧ (Cond.methodLink own index y).before args s = true ∧ (Cond.static y).before args s = true
theorem vx_cwSW {own : String} {index maxL mc ms : Nat} {y : MethodName} {bytes : ByteArray} {ret : Option FieldType} {hh : List (Nat × Nat × Nat × Nat)} {Ts ws ws' : List Cond} {rm : Room} (n : Nat) (ht : ∀ w ∈ Ts, w.before args s = true) (hT : GoodIn Ts (va_wsS own index y ws)) (hw : ws = Cond.codeWith y bytes maxL ret hh :: ws') (hrc : rm.cells = mc) (hrs : rm.slots = ms)
    (hd : y.cls ≠ "java/lang/invoke/MethodHandle" ∧ y.cls ≠ "java/lang/invoke/VarHandle" ∧ (parseMethodDescriptor y.desc).map (fun d => d.parameters.length) = some n) (hR : rm.frames + 1 ≤ R.frames ∧ 8 + (maxL + 11) + rm.locals ≤ R.locals) :
    vx_CSW R s args own index y bytes maxL ret hh ws rm mc ms n := by
  have ok : ∀ w ∈ va_wsS own index y ws, w.before args s = true := fun w h => ht w (hT w h).1
  have hG : GoodIn Ts ws := fun w h => hT w (by unfold va_wsS; exact List.mem_append_right _ h)
  have hc : Cond.codeWith y bytes maxL ret hh ∈ ws := by rw [hw]; exact List.mem_cons_self
  refine ⟨⟨hrc, hrs, hR.1, hR.2, pay_in ht hG, hc⟩, ht _ (hG _ hc).1, ok _ (by simp [va_wsS]), ⟨hd.1, hd.2.1⟩, fun sig h => ?_, ok _ (by simp [va_wsS]), ok _ (by simp [va_wsS])⟩
  have h2 := hd.2.2
  rw [h] at h2
  exact (Option.some.inj h2).symm
theorem vx_callSW (X : Stand p l e R s m args below meth c T locs cells slots) (hexec : p.tables.exec = Jvm.exec) {own : String} {index : Nat} {y : MethodName} {bytes : ByteArray} {maxL : Nat} {ret : Option FieldType} {hh : List (Nat × Nat × Nat × Nat)}
    (hown : s.vm.findClass own = some m.cls) (hlink : (Cond.methodLink own index y).before args s = true) (hstat : (Cond.static y).before args s = true) (hinit : (Cond.initialized y.cls).before args s = true)
    (hcode : (Cond.codeWith y bytes maxL ret hh).before args s = true) (hy : y.cls ≠ "java/lang/invoke/MethodHandle" ∧ y.cls ≠ "java/lang/invoke/VarHandle")
    {W9 : Nat} {Pre : Pt → Array Value → Prop} {Post : Pt → Array Value → Option Value → Pt → Prop} (hK : Back l R p e below s args y 3 W9 Pre Post)
    {g : JFrame} (hg : g.method = m) (hsize : g.locals.size = c.maxLocals) {argsL rest : List Value} (hlen : ∀ sig, parseMethodDescriptor y.desc = some sig → argsL.length = sig.parameters.length)
    (hstack : g.stack = argsL.reverse ++ rest) (hW : 2 * g.monitorRoom + (rest.map fun v => v.category).sum ≤ W9) (hdg : decode c.code g.pc = .ok (.invokestatic index, 3))
    (hpre : ∀ vm₁, s.WarmedH vm₁ → Pre ⟨T.setVm vm₁, locs, cells, slots⟩ argsL.toArray) :
    ∃ (v : Option Value) (vm₁ : Vm) (B : Pt), s.WarmedH vm₁ ∧ Stand p l e R s m args below meth c B.U B.locs B.cells B.slots ∧ Post ⟨T.setVm vm₁, locs, cells, slots⟩ argsL.toArray v B ∧
      ∀ target, Steps p.tables e below (B.U.setTop { g with pc := g.pc + 3, stack := v.toList ++ rest }) target → Steps p.tables e below (T.setTop g) target := by
  obtain ⟨mk, methM, cM, hnamed, hmethM, -, -, -, -, -, -, hsigM⟩ := Cond.codeWith_spec hcode
  have hstatic : methM.isStatic = true := Cond.static_spec hnamed hmethM hstat
  obtain ⟨kP, hkP, -⟩ := className_of_methodNamed hnamed
  have hinitP : kP.init = .initialized := Cond.initialized_spec (findClass_of_methodNamed hnamed) hkP hinit
  obtain ⟨vm₁, X₁, hstep₁⟩ := X.invokestatic hexec hown hlink hnamed hmethM hstatic hkP hinitP hy (g := g) hg (argsL := argsL) (rest := rest) (hlen _ hsigM) hstack hdg
  obtain ⟨v, B, X', hpost, hsteps⟩ := hK m meth c ⟨T.setVm vm₁, locs, cells, slots⟩ { g with stack := rest } (.invokestatic index) mk argsL.toArray X₁ hg hsize hdg hW (X₁.named hnamed) (hpre vm₁ X₁.warmed)
  exact ⟨v, vm₁, B, X₁.warmed, X', hpost, fun target h => hstep₁ _ fun acts => by rw [doInvoke_state]; exact hsteps.trans h⟩
theorem vx_runSW {y : MethodName} {bytes cc : ByteArray} {maxL nL mc ms n index : Nat} {ret : Option FieldType} {hh : List (Nat × Nat × Nat × Nat)} {ws : List Cond} {rm : Room} {Pc : Array Value → State → Prop} {Qc : Array Value → State → Outcome → State → Prop} {free : Addr → Prop} {Ts : List Cond} {own : String} {As rest : List Value} {g : JFrame}
    (S : CallFix p m c cc nL s args Ts own) (hM : Met l y ws rm Pc Qc mc ms free) (cw : vx_CSW R s args own index y bytes maxL ret hh ws rm mc ms n) (hp : PreS s H Pc As)
    (hg : g.method = m) (hn : As.length = n) (hsize : g.locals.size = nL) (hstack : g.stack = As.reverse ++ rest) (hW : 2 * g.monitorRoom + (rest.map fun v => v.category).sum ≤ 8) (hdg : decode cc g.pc = .ok (.invokestatic index, 3)) (hf : cells + mc ≤ R.cells ∧ slots + ms ≤ R.slots) :
    va_Run p l e R s m args below meth c H locs cells slots mc ms g rest (Qc As.toArray) (free) := by
  obtain ⟨⟨hrc, hrs, hfr, hlo, hws, hcw⟩, hcode, hini, hy, hlen, hl, hstt⟩ := cw
  have hK : Back l R p e below s args y 3 8 (PreOf R mc ms Pc) (PostOf Qc mc ms free) := va_backW (hh := hh) (bytes := bytes) (maxL := maxL) (ret := ret) hM hp.1 hrc hrs hfr hlo hws hcw (fun a' U hW => word_at hW (Or.inl (by first | rfl | simp [Cond.onTables, Cond.keeps, Cond.steady])) hini)
  obtain ⟨hx, hb, hml, ho, -⟩ := S
  intro T hT X
  obtain ⟨v, vm₁, ⟨U', l2, c2, s2⟩, hW₁, X', ⟨g', mk, t, L, e1, e2, hq, h1, hL, h2, h3⟩, st⟩ := vx_callSW X hx (hh := hh) (bytes := bytes) (maxL := maxL) (ret := ret) ho hl hstt hini hcode hy hK hg (hsize.trans hml.symm) (argsL := As) (rest := rest) (fun sig h => hn.trans (hlen sig h)) hstack hW (by rw [hb]; exact hdg)
    (fun vm₁ hW₁ => ⟨hf.1, hf.2, hp.2 (T.setVm vm₁) hT hW₁⟩)
  dsimp only [Pt.U, Pt.locs, Pt.cells, Pt.slots] at X' e1 e2 h1 h2 h3 st
  subst h1; subst h2; subst h3
  exact ⟨v, (T.setVm vm₁).calling g' mk As.toArray, t, U', L, hT, X', hL, e1, e2, hq, st⟩
/-- not caught here, past rows that name other classes: it goes on to the caller -/
theorem vx_outP {p : Program} {l : Launch} {e : Env} {R : Room} {s : State} {m : MethodId} {args : Array Value} {below : List Frame} {meth : Method} {c : Code} {H : Heap} {locs : List Loc} {cells slots : Nat} {free : Addr → Prop} {ls : Array Slot} {rest : List Value} {Qc : Array Value → State → Outcome → State → Prop} {XC : String → State → State → Prop}
    {pc : Nat} {own E : String} {ce : Cell} {q : Addr} {mc ms : Nat} (hown : s.vm.findClass own = some m.cls) (hlocks : meth.locks = false)
    (hpass : ∀ z ∈ c.exceptionTable.toList, covers z pc = false ∨ (z.catchType ≠ 0 ∧ ∃ nm : String, (Cond.classLink own z.catchType nm).before args s = true ∧ va_Nc E nm s)) (hcell : H[q]? = some ce) (hv : ce.vm = .none) (hcl : s.vm.findClass E = some ce.cls)
    (hx : ∀ t : State, t.heap = H → s.vm.Alike t.vm → XC E s t) (hf : ∀ z ∈ locs, free z.base) (hc : cells ≤ mc) (hs : slots ≤ ms) :
    vx_W p l e R s m args below meth c H locs cells slots (vx_MQ below Qc XC args s mc ms free) (F0 m pc ls rest) q := by
  intro T hT X
  have hpl : e.platform.magicAccessors = ({} : Platform).magicAccessors := by rw [X.admits.platform]
  obtain ⟨vm', hW', X', st⟩ := X.outThrough hlocks q (g := F0 m pc ls rest) rfl rfl rfl (cell := ce) (by rw [hT]; exact hcell) (by rw [hv]; rfl)
    (by obtain ⟨k9, h9, -⟩ := Vm.findClass_spec hcl; exact ⟨k9, h9⟩) (fun z hz => by
      rcases hpass z hz with h | ⟨hz0, nm, hl1, hn1⟩
      · exact Or.inl h
      · obtain ⟨c6, hc6, hcl6⟩ := Cond.classLink_spec hown hl1 e.platform hpl
        obtain ⟨a8, b8, h1, h2, h3⟩ := hn1
        cases Option.some.inj (h1.symm.trans hcl)
        cases Option.some.inj (h2.symm.trans hc6)
        exact Or.inr ⟨hz0, _, hcl6, h3⟩)
  obtain ⟨g₀, hfr⟩ := X'.frames_eq
  have hcell9 : ((T.setVm vm').setFrames (.throwing q :: below)).heap[q]? = some ce := by
    show T.heap[q]? = some ce
    rw [hT]; exact hcell
  have hend : Ended ((T.setVm vm').setFrames (.throwing q :: below)) below (.threw q) := State.frames_setFrames _ (State.cur_lt_of_frames hfr)
  refine ⟨(T.setVm vm').setFrames (.throwing q :: below), ?_, .threw q, X'.here.running, hend, Or.inr ⟨q, rfl, E, ce, locs, hx _ hT (X'.ends _).1.alike, hcell9, hv, hcl, (X'.ends _).1, (X'.ends _).2.mono hc hs, hf⟩⟩
  rw [X.pushThrowing_eq]
  exact st
/-- a thing of a world lies in the heap -/
theorem vx_lt {D : va_G} {cl : List vw_C} {ws : va_W} {H1 : Heap} (h : va_P D cl ws H1) {k : Nat} {q : Nat × va_E} (hk : ws[k]? = some q) : q.1 < H1.size := (h k q hk).lt
end VXS
/-! ===== END ===== -/
/-! ===== BEGIN methods with a table of their own: called by a name, returning or throwing ===== -/
section VXH
/-! vx_backW, vx_callVX, vx_callSX, vx_callVW, vx_runVW, vx_runVX, vx_runSX, vx_ofWH follow the same proofs as their sisters above (Free/Laws.lean, Shelf42/LK1.lean); vx_outP calls Shelf42/NT130.lean (outThrough). -/
section
variable {l : Launch} {R : Room} {p : Program} {e : Env} {below : List Frame} {s : State} {sargs : Array Value} {y : MethodName} {len W9 : Nat}
theorem vx_backW {ws : List Cond} {rm : Room} {Pc : Array Value → State → Prop} {Qc : Array Value → State → Outcome → State → Prop} {XC : String → State → State → Prop} {mc ms : Nat} {free : Addr → Prop} {bytes : ByteArray} {maxL : Nat} {ret : Option FieldType} {hh : List (Nat × Nat × Nat × Nat)}
    (hM : vx_Met l y ws rm Pc Qc XC mc ms free) (hblind : FrameBlind Pc) (hrc : rm.cells = mc) (hrs : rm.slots = ms)
    (hframes : rm.frames + 1 ≤ R.frames) (hlocals : W9 + (maxL + 11) + rm.locals ≤ R.locals)
    (hws : ∀ w ∈ ws, ∀ a' U, s.WarmedH U.vm → w.before a' U = true) (hcode : Cond.codeWith y bytes maxL ret hh ∈ ws) (hinit : ∀ a' U, s.WarmedH U.vm → (Cond.initialized y.cls).before a' U = true) :
    vx_Back l R p e below s sargs y len W9 (PreOf R mc ms Pc) (PostOf Qc mc ms free) (vx_Post XC mc ms free) := by
  intro m meth c A g ig mk a X hg hsize hdg hW hn hp
  have h1 : (headSpec ws rm).pre.before a A.U = true := atoms_intro fun w hw => hws w hw _ _ X.warmed
  have h2 : (Cond.codeWith y bytes maxL ret hh).before a A.U = true := hws _ hcode _ _ X.warmed
  have h3 : (Cond.initialized y.cls).before a A.U = true := hinit _ _ X.warmed
  have h4 : A.cells + (headSpec ws rm).room.cells ≤ R.cells := by rw [show (headSpec ws rm).room.cells = mc from hrc]; exact hp.1
  have h5 : A.slots + (headSpec ws rm).room.slots ≤ R.slots := by rw [show (headSpec ws rm).room.slots = ms from hrs]; exact hp.2.1
  have hPc : Pc a (A.U.calling g mk a) := hblind _ _ _ _ hp.2.2
  obtain ⟨U, Ls, c0, s0⟩ := A
  dsimp only [Pt.U, Pt.locs, Pt.cells, Pt.slots] at h1 h2 h3 h4 h5 X hn hPc ⊢
  obtain ⟨m9, methY, cY, hn9, hmY, hcY, -, hlY, -⟩ := Cond.codeWith_spec h2
  cases Option.some.inj (hn9.symm.trans hn)
  obtain ⟨kY, hkY, -⟩ := className_of_methodNamed hn
  have hinitY : kY.init = .initialized := Cond.initialized_spec (findClass_of_methodNamed hn) hkY h3
  have h : At U g.method c below := by rw [hg]; exact X.here
  have hlocals9 : W9 + (maxL + 11) + (headSpec ws rm).room.locals ≤ R.locals := hlocals
  have happ : (headSpec ws rm).appliesLoose y e.platform (U.calling g mk a) = true :=
    Spec.appliesLoose_calling (g := g) h hdg hn hkY hinitY
      (X.room_calling (g := g) (R' := (headSpec ws rm).room) hsize hmY hcY hframes (by rw [hlY]; omega) h4 h5) h1
  obtain ⟨mid, hmid⟩ := h.above
  have hfr : (U.setTop g).frames = (.java g :: mid) ++ below := by rw [State.frames_setTop' g h.top, hmid]; rfl
  obtain ⟨o, s₂, hsteps, -, hend, hq⟩ := Steps.callFree hM p X.admits X.cas X.clock (acts := []) hfr happ hPc trivial
  have hq' : vx_Q Qc XC mc ms free a (U.calling g mk a) o s₂ := hq
  rw [State.frames_setTop' g h.top] at hend
  obtain ⟨g₀, hg0⟩ := Option.isSome_iff_exists.mp h.top
  obtain ⟨r, hr⟩ := State.topJava?_eq_some.mp hg0
  have hr' : (({ U with heap := s₂.heap, slotsUsed := s₂.slotsUsed } : State).setVm s₂.vm).frames = .java g₀ :: r := hr
  rcases hq' with ⟨hqc, L, hfe, hL⟩ | ⟨q, rfl, E, ce, L, hx, hce, hcv, hcl, hW₂, hsm, hL⟩
  · obtain ⟨⟨v, rfl⟩, hW₂, e2, q2, q3, q4, q5, q6⟩ := id hfe
    have e3 : s₂ = ({ (U.calling g mk a).setFrames s₂.frames with heap := s₂.heap, slotsUsed := s₂.slotsUsed } : State).setVm s₂.vm := by
      have : s₂ = ({ s₂ with vm := (U.calling g mk a).vm } : State).setVm s₂.vm := rfl
      rw [e2] at this
      exact this
    obtain ⟨c₂, i₂, len₂, hc₂, hd₂, hf₂⟩ := hend
    have hW' : U.WarmedH s₂.vm := hW₂
    have hcc : c₂ = c := by
      have h1 : s₂.code? g.method = U.code? g.method := by
        rw [State.code?_eq, State.code?_eq, hW'.alike.method?]
      exact Option.some.inj (hc₂.symm.trans (h1.trans h.code))
    subst hcc
    have hlen : len₂ = len := by rw [hdg] at hd₂; cases hd₂; rfl
    subst hlen
    have hs₂ : s₂ = (({ U with heap := s₂.heap, slotsUsed := s₂.slotsUsed } : State).setVm s₂.vm).setTop { g with pc := g.pc + len₂, stack := v.toList ++ g.stack } := by
      refine e3.trans ?_
      rw [hf₂, State.calling_eq h.top, State.setFrames_setFrames, State.setTop_of_frames _ hr', hr]
      rfl
    have hsame : U.sameButNew ({ U with heap := s₂.heap, slotsUsed := s₂.slotsUsed } : State) L mc ms := by
      refine ⟨?_, q2, q3, q4, q5, q6⟩
      obtain ⟨t, ht, -⟩ := State.frames_cons hr
      show ({ U with heap := s₂.heap, slotsUsed := s₂.slotsUsed } : State) = { U.setFrames U.frames with heap := s₂.heap, slotsUsed := s₂.slotsUsed }
      rw [State.setFrames_self ht]
    subst hg
    refine Or.inl ⟨v, ⟨(({ U with heap := s₂.heap, slotsUsed := s₂.slotsUsed } : State).setVm s₂.vm), Ls ++ L, c0 + mc, s0 + ms⟩,
      ⟨X.admits, X.cas, X.clock, X.frames, X.room, X.hears, X.method, X.code, (X.here.setHeapUsed s₂.heap s₂.slotsUsed).setVm hW'.alike, X.tail, State.WarmedH.trans X.warmed hW', X.limits, X.bytes, X.same.trans (hsame.setVm s.vm)⟩,
      ⟨g, mk, s₂, L, rfl, rfl, hqc, rfl, hL, rfl, rfl⟩, ?_⟩
    show Steps p.tables e below _ ((({ U with heap := s₂.heap, slotsUsed := s₂.slotsUsed } : State).setVm s₂.vm).setTop { g with pc := g.pc + len₂, stack := v.toList ++ g.stack })
    rw [← hs₂]
    exact hsteps
  · obtain ⟨e2, q2, q3, q4, q5, q6⟩ := id hsm
    have e3 : s₂ = ({ (U.calling g mk a).setFrames s₂.frames with heap := s₂.heap, slotsUsed := s₂.slotsUsed } : State).setVm s₂.vm := by
      have : s₂ = ({ s₂ with vm := (U.calling g mk a).vm } : State).setVm s₂.vm := rfl
      rw [e2] at this
      exact this
    have hf₂ : s₂.frames = .throwing q :: .java g :: U.frames.tail := hend
    have hW' : U.WarmedH s₂.vm := hW₂
    have hs₂ : s₂ = ((({ U with heap := s₂.heap, slotsUsed := s₂.slotsUsed } : State).setVm s₂.vm).setTop g).pushFrame (.throwing q) := by
      refine e3.trans ?_
      rw [hf₂, State.calling_eq h.top, State.setFrames_setFrames, State.pushFrame, State.frames_setTop _ hr', State.setTop_of_frames _ hr', State.setFrames_setFrames, hr]
      rfl
    have hsame : U.sameButNew ({ U with heap := s₂.heap, slotsUsed := s₂.slotsUsed } : State) L mc ms := by
      refine ⟨?_, q2, q3, q4, q5, q6⟩
      obtain ⟨t, ht, -⟩ := State.frames_cons hr
      show ({ U with heap := s₂.heap, slotsUsed := s₂.slotsUsed } : State) = { U.setFrames U.frames with heap := s₂.heap, slotsUsed := s₂.slotsUsed }
      rw [State.setFrames_self ht]
    subst hg
    refine Or.inr ⟨q, ⟨(({ U with heap := s₂.heap, slotsUsed := s₂.slotsUsed } : State).setVm s₂.vm), Ls ++ L, c0 + mc, s0 + ms⟩,
      ⟨X.admits, X.cas, X.clock, X.frames, X.room, X.hears, X.method, X.code, (X.here.setHeapUsed s₂.heap s₂.slotsUsed).setVm hW'.alike, X.tail, State.WarmedH.trans X.warmed hW', X.limits, X.bytes, X.same.trans (hsame.setVm s.vm)⟩,
      ⟨g, mk, s₂, L, E, ce, rfl, rfl, hx, hce, hcv, hcl, rfl, hL, rfl, rfl⟩, ?_⟩
    show Steps p.tables e below _ (((({ U with heap := s₂.heap, slotsUsed := s₂.slotsUsed } : State).setVm s₂.vm).setTop g).pushFrame (.throwing q))
    rw [← hs₂]
    exact hsteps
end
variable {p : Program} {l : Launch} {e : Env} {R : Room} {s : State} {m : MethodId} {args : Array Value} {below : List Frame} {meth : Method} {c : Code} {T : State} {H : Heap} {locs : List Loc} {cells slots : Nat}
theorem vx_callVX (X : Stand p l e R s m args below meth c T locs cells slots) (hexec : p.tables.exec = Jvm.exec) {own C : String} {index : Nat} {y : MethodName} {bytes : ByteArray} {maxL : Nat} {ret : Option FieldType} {hh : List (Nat × Nat × Nat × Nat)}
    (hown : s.vm.findClass own = some m.cls) (hlink : (Cond.methodLink own index y).before args s = true) (hinst : (Cond.instanceMethod y).before args s = true) (hsel : (Cond.selects C y y).before args s = true)
    (hcode : (Cond.codeWith y bytes maxL ret hh).before args s = true) (hy : y.cls ≠ "java/lang/invoke/MethodHandle" ∧ y.cls ≠ "java/lang/invoke/VarHandle")
    {W9 : Nat} {Pre : Pt → Array Value → Prop} {Post : Pt → Array Value → Option Value → Pt → Prop} {PostX : Pt → Array Value → Addr → Pt → Prop} (hK : vx_Back l R p e below s args y 3 W9 Pre Post PostX)
    {b : Addr} {cellB : Cell} (hcell : T.heap[b]? = some cellB) (hobj : cellB.vm.isStatics = false) (hcls : s.vm.findClass C = some cellB.cls)
    {g : JFrame} (hg : g.method = m) (hsize : g.locals.size = c.maxLocals) {argsL rest : List Value} (hlen : ∀ sig, parseMethodDescriptor y.desc = some sig → argsL.length = sig.parameters.length)
    (hstack : g.stack = argsL.reverse ++ .ref b :: rest) (hW : 2 * g.monitorRoom + (rest.map fun v => v.category).sum ≤ W9) (hdg : decode c.code g.pc = .ok (.invokevirtual index, 3))
    (hpre : ∀ vm₁, s.WarmedH vm₁ → Pre ⟨T.setVm vm₁, locs, cells, slots⟩ (Value.ref b :: argsL).toArray) :
    (∃ (v : Option Value) (vm₁ : Vm) (B : Pt), s.WarmedH vm₁ ∧ Stand p l e R s m args below meth c B.U B.locs B.cells B.slots ∧ Post ⟨T.setVm vm₁, locs, cells, slots⟩ (Value.ref b :: argsL).toArray v B ∧
      ∀ target, Steps p.tables e below (B.U.setTop { g with pc := g.pc + 3, stack := v.toList ++ rest }) target → Steps p.tables e below (T.setTop g) target) ∨
    (∃ (q : Addr) (vm₁ : Vm) (B : Pt), s.WarmedH vm₁ ∧ Stand p l e R s m args below meth c B.U B.locs B.cells B.slots ∧ PostX ⟨T.setVm vm₁, locs, cells, slots⟩ (Value.ref b :: argsL).toArray q B ∧
      Steps p.tables e below (T.setTop g) ((B.U.setTop { g with stack := rest }).pushFrame (.throwing q))) := by
  obtain ⟨mk, methM, hnamed, hmethM, hstM, habM⟩ := Cond.instanceMethod_spec hinst
  obtain ⟨m8, methM', cM, hn8, hmethM', -, -, -, -, -, -, hsigM⟩ := Cond.codeWith_spec hcode
  cases Option.some.inj (hn8.symm.trans hnamed)
  cases hmethM.symm.trans hmethM'
  obtain ⟨c2, r2, m2, q1, q2, q3, q4, kP, hkP, hkPi⟩ := Cond.selects_spec hsel
  cases hcls.symm.trans q1
  cases (State.methodFound?_of_named hnamed hy).symm.trans q2
  cases hnamed.symm.trans q3
  have hselP : selectMethod e.platform s.vm cellB.cls mk = .method mk := by rw [Launch.admits_selectMethod X.admits]; exact q4
  obtain ⟨vm₁, X₁, hstep₁⟩ := X.invokevirtual hexec hown hlink hnamed hmethM hstM hkP hkPi hy (a := b) (cell := cellB) hcell
    (fun z h => by rw [h] at hobj; cases hobj) hselP hmethM habM hkP hkPi (g := g) hg (argsL := argsL) (rest := rest) (hlen _ hsigM) hstack hdg
  rcases hK m meth c ⟨T.setVm vm₁, locs, cells, slots⟩ { g with stack := rest } (.invokevirtual index) mk (Value.ref b :: argsL).toArray X₁ hg hsize hdg hW (X₁.named hnamed) (hpre vm₁ X₁.warmed) with ⟨v, B, X', hpost, hsteps⟩ | ⟨q, B, X', hpost, hsteps⟩
  · exact Or.inl ⟨v, vm₁, B, X₁.warmed, X', hpost, fun target h => hstep₁ _ fun acts => by rw [doInvoke_state]; exact hsteps.trans h⟩
  · exact Or.inr ⟨q, vm₁, B, X₁.warmed, X', hpost, hstep₁ _ fun acts => by rw [doInvoke_state]; exact hsteps⟩
theorem vx_callSX (X : Stand p l e R s m args below meth c T locs cells slots) (hexec : p.tables.exec = Jvm.exec) {own : String} {index : Nat} {y : MethodName} {bytes : ByteArray} {maxL : Nat} {ret : Option FieldType} {hh : List (Nat × Nat × Nat × Nat)}
    (hown : s.vm.findClass own = some m.cls) (hlink : (Cond.methodLink own index y).before args s = true) (hstat : (Cond.static y).before args s = true) (hinit : (Cond.initialized y.cls).before args s = true)
    (hcode : (Cond.codeWith y bytes maxL ret hh).before args s = true) (hy : y.cls ≠ "java/lang/invoke/MethodHandle" ∧ y.cls ≠ "java/lang/invoke/VarHandle")
    {W9 : Nat} {Pre : Pt → Array Value → Prop} {Post : Pt → Array Value → Option Value → Pt → Prop} {PostX : Pt → Array Value → Addr → Pt → Prop} (hK : vx_Back l R p e below s args y 3 W9 Pre Post PostX)
    {g : JFrame} (hg : g.method = m) (hsize : g.locals.size = c.maxLocals) {argsL rest : List Value} (hlen : ∀ sig, parseMethodDescriptor y.desc = some sig → argsL.length = sig.parameters.length)
    (hstack : g.stack = argsL.reverse ++ rest) (hW : 2 * g.monitorRoom + (rest.map fun v => v.category).sum ≤ W9) (hdg : decode c.code g.pc = .ok (.invokestatic index, 3))
    (hpre : ∀ vm₁, s.WarmedH vm₁ → Pre ⟨T.setVm vm₁, locs, cells, slots⟩ argsL.toArray) :
    (∃ (v : Option Value) (vm₁ : Vm) (B : Pt), s.WarmedH vm₁ ∧ Stand p l e R s m args below meth c B.U B.locs B.cells B.slots ∧ Post ⟨T.setVm vm₁, locs, cells, slots⟩ argsL.toArray v B ∧
      ∀ target, Steps p.tables e below (B.U.setTop { g with pc := g.pc + 3, stack := v.toList ++ rest }) target → Steps p.tables e below (T.setTop g) target) ∨
    (∃ (q : Addr) (vm₁ : Vm) (B : Pt), s.WarmedH vm₁ ∧ Stand p l e R s m args below meth c B.U B.locs B.cells B.slots ∧ PostX ⟨T.setVm vm₁, locs, cells, slots⟩ argsL.toArray q B ∧
      Steps p.tables e below (T.setTop g) ((B.U.setTop { g with stack := rest }).pushFrame (.throwing q))) := by
  obtain ⟨mk, methM, cM, hnamed, hmethM, -, -, -, -, -, -, hsigM⟩ := Cond.codeWith_spec hcode
  have hstatic : methM.isStatic = true := Cond.static_spec hnamed hmethM hstat
  obtain ⟨kP, hkP, -⟩ := className_of_methodNamed hnamed
  have hinitP : kP.init = .initialized := Cond.initialized_spec (findClass_of_methodNamed hnamed) hkP hinit
  obtain ⟨vm₁, X₁, hstep₁⟩ := X.invokestatic hexec hown hlink hnamed hmethM hstatic hkP hinitP hy (g := g) hg (argsL := argsL) (rest := rest) (hlen _ hsigM) hstack hdg
  rcases hK m meth c ⟨T.setVm vm₁, locs, cells, slots⟩ { g with stack := rest } (.invokestatic index) mk argsL.toArray X₁ hg hsize hdg hW (X₁.named hnamed) (hpre vm₁ X₁.warmed) with ⟨v, B, X', hpost, hsteps⟩ | ⟨q, B, X', hpost, hsteps⟩
  · exact Or.inl ⟨v, vm₁, B, X₁.warmed, X', hpost, fun target h => hstep₁ _ fun acts => by rw [doInvoke_state]; exact hsteps.trans h⟩
  · exact Or.inr ⟨q, vm₁, B, X₁.warmed, X', hpost, hstep₁ _ fun acts => by rw [doInvoke_state]; exact hsteps⟩
theorem vx_callVW (X : Stand p l e R s m args below meth c T locs cells slots) (hexec : p.tables.exec = Jvm.exec) {own C : String} {index : Nat} {y : MethodName} {bytes : ByteArray} {maxL : Nat} {ret : Option FieldType} {hh : List (Nat × Nat × Nat × Nat)}
    (hown : s.vm.findClass own = some m.cls) (hlink : (Cond.methodLink own index y).before args s = true) (hinst : (Cond.instanceMethod y).before args s = true) (hsel : (Cond.selects C y y).before args s = true)
    (hcode : (Cond.codeWith y bytes maxL ret hh).before args s = true) (hy : y.cls ≠ "java/lang/invoke/MethodHandle" ∧ y.cls ≠ "java/lang/invoke/VarHandle")
    {W9 : Nat} {Pre : Pt → Array Value → Prop} {Post : Pt → Array Value → Option Value → Pt → Prop} (hK : Back l R p e below s args y 3 W9 Pre Post)
    {b : Addr} {cellB : Cell} (hcell : T.heap[b]? = some cellB) (hobj : cellB.vm.isStatics = false) (hcls : s.vm.findClass C = some cellB.cls)
    {g : JFrame} (hg : g.method = m) (hsize : g.locals.size = c.maxLocals) {argsL rest : List Value} (hlen : ∀ sig, parseMethodDescriptor y.desc = some sig → argsL.length = sig.parameters.length)
    (hstack : g.stack = argsL.reverse ++ .ref b :: rest) (hW : 2 * g.monitorRoom + (rest.map fun v => v.category).sum ≤ W9) (hdg : decode c.code g.pc = .ok (.invokevirtual index, 3))
    (hpre : ∀ vm₁, s.WarmedH vm₁ → Pre ⟨T.setVm vm₁, locs, cells, slots⟩ (Value.ref b :: argsL).toArray) :
    ∃ (v : Option Value) (vm₁ : Vm) (B : Pt), s.WarmedH vm₁ ∧ Stand p l e R s m args below meth c B.U B.locs B.cells B.slots ∧ Post ⟨T.setVm vm₁, locs, cells, slots⟩ (Value.ref b :: argsL).toArray v B ∧
      ∀ target, Steps p.tables e below (B.U.setTop { g with pc := g.pc + 3, stack := v.toList ++ rest }) target → Steps p.tables e below (T.setTop g) target := by
  obtain ⟨mk, methM, hnamed, hmethM, hstM, habM⟩ := Cond.instanceMethod_spec hinst
  obtain ⟨m8, methM', cM, hn8, hmethM', -, -, -, -, -, -, hsigM⟩ := Cond.codeWith_spec hcode
  cases Option.some.inj (hn8.symm.trans hnamed)
  cases hmethM.symm.trans hmethM'
  obtain ⟨c2, r2, m2, q1, q2, q3, q4, kP, hkP, hkPi⟩ := Cond.selects_spec hsel
  cases hcls.symm.trans q1
  cases (State.methodFound?_of_named hnamed hy).symm.trans q2
  cases hnamed.symm.trans q3
  have hselP : selectMethod e.platform s.vm cellB.cls mk = .method mk := by rw [Launch.admits_selectMethod X.admits]; exact q4
  obtain ⟨vm₁, X₁, hstep₁⟩ := X.invokevirtual hexec hown hlink hnamed hmethM hstM hkP hkPi hy (a := b) (cell := cellB) hcell
    (fun z h => by rw [h] at hobj; cases hobj) hselP hmethM habM hkP hkPi (g := g) hg (argsL := argsL) (rest := rest) (hlen _ hsigM) hstack hdg
  obtain ⟨v, B, X', hpost, hsteps⟩ := hK m meth c ⟨T.setVm vm₁, locs, cells, slots⟩ { g with stack := rest } (.invokevirtual index) mk (Value.ref b :: argsL).toArray X₁ hg hsize hdg hW (X₁.named hnamed) (hpre vm₁ X₁.warmed)
  exact ⟨v, vm₁, B, X₁.warmed, X', hpost, fun target h => hstep₁ _ fun acts => by rw [doInvoke_state]; exact hsteps.trans h⟩
abbrev vx_CVW (R : Room) (s : State) (args : Array Value) (own C : String) (index : Nat) (y : MethodName) (bytes : ByteArray) (maxL : Nat) (ret : Option FieldType) (hh : List (Nat × Nat × Nat × Nat)) (ws : List Cond) (rm : Room) (mc ms n : Nat) : Prop :=
  (rm.cells = mc ∧ rm.slots = ms ∧ rm.frames + 1 ≤ R.frames ∧ 8 + (maxL + 11) + rm.locals ≤ R.locals ∧ (∀ w ∈ ws, ∀ (a' : Array Value) (U : State), s.WarmedH U.vm → w.before a' U = true) ∧ Cond.codeWith y bytes maxL ret hh ∈ ws) ∧
  (Cond.codeWith y bytes maxL ret hh).before args s = true ∧ (Cond.initialized y.cls).before args s = true ∧ (y.cls ≠ "java/lang/invoke/MethodHandle" ∧ y.cls ≠ "java/lang/invoke/VarHandle") ∧
  (∀ sig, parseMethodDescriptor y.desc = some sig → n = sig.parameters.length) ∧ (Cond.methodLink own index y).before args s = true ∧ (Cond.instanceMethod y).before args s = true ∧ (Cond.selects C y y).before args s = true
theorem vx_cwVW {own C : String} {index maxL mc ms : Nat} {y : MethodName} {bytes : ByteArray} {ret : Option FieldType} {hh : List (Nat × Nat × Nat × Nat)} {Ts ws ws' : List Cond} {rm : Room} (n : Nat) (ht : ∀ w ∈ Ts, w.before args s = true) (hT : GoodIn Ts (wsV own index C y ws)) (hw : ws = Cond.codeWith y bytes maxL ret hh :: ws') (hrc : rm.cells = mc) (hrs : rm.slots = ms)
    (hd : y.cls = C ∧ y.cls ≠ "java/lang/invoke/MethodHandle" ∧ y.cls ≠ "java/lang/invoke/VarHandle" ∧ (parseMethodDescriptor y.desc).map (fun d => d.parameters.length) = some n) (hR : rm.frames + 1 ≤ R.frames ∧ 8 + (maxL + 11) + rm.locals ≤ R.locals) :
    vx_CVW R s args own C index y bytes maxL ret hh ws rm mc ms n := by
  obtain ⟨hC, hd⟩ := hd
  subst hC
  have ok : ∀ w ∈ wsV own index y.cls y ws, w.before args s = true := fun w h => ht w (hT w h).1
  have hG : GoodIn Ts ws := fun w h => hT w (by unfold wsV; exact List.mem_append_right _ h)
  have hc : Cond.codeWith y bytes maxL ret hh ∈ ws := by rw [hw]; exact List.mem_cons_self
  refine ⟨⟨hrc, hrs, hR.1, hR.2, pay_in ht hG, hc⟩, ht _ (hG _ hc).1, ok _ (by simp [wsV]), ⟨hd.1, hd.2.1⟩, fun sig h => ?_, ok _ (by simp [wsV]), ok _ (by simp [wsV]), ok _ (by simp [wsV])⟩
  have h2 := hd.2.2
  rw [h] at h2
  exact (Option.some.inj h2).symm
theorem vx_runVW {y : MethodName} {bytes cc : ByteArray} {maxL nL mc ms n index : Nat} {ret : Option FieldType} {hh : List (Nat × Nat × Nat × Nat)} {ws : List Cond} {rm : Room} {Pc : Array Value → State → Prop} {Qc : Array Value → State → Outcome → State → Prop} {free : Addr → Prop} {Ts : List Cond} {own C : String} {b : Addr} {As rest : List Value} {g : JFrame}
    (S : CallFix p m c cc nL s args Ts own) (hM : Met l y ws rm Pc Qc mc ms free) (cw : vx_CVW R s args own C index y bytes maxL ret hh ws rm mc ms n) (hp : PreV s H C b Pc As)
    (hg : g.method = m) (hn : As.length = n) (hsize : g.locals.size = nL) (hstack : g.stack = As.reverse ++ .ref b :: rest) (hW : 2 * g.monitorRoom + (rest.map fun v => v.category).sum ≤ 8) (hdg : decode cc g.pc = .ok (.invokevirtual index, 3)) (hf : cells + mc ≤ R.cells ∧ slots + ms ≤ R.slots) :
    va_Run p l e R s m args below meth c H locs cells slots mc ms g rest (Qc (Value.ref b :: As).toArray) free := by
  obtain ⟨⟨hrc, hrs, hfr, hlo, hws, hcw⟩, hcode, hini, hy, hlen, hl, hin, hse⟩ := cw
  have hK : Back l R p e below s args y 3 8 (PreOf R mc ms Pc) (PostOf Qc mc ms free) := va_backW (hh := hh) (bytes := bytes) (maxL := maxL) (ret := ret) hM hp.1 hrc hrs hfr hlo hws hcw (fun a' U hW => word_at hW (Or.inl (by first | rfl | simp [Cond.onTables, Cond.keeps, Cond.steady])) hini)
  obtain ⟨hx, hb, hml, ho, -⟩ := S
  obtain ⟨-, ⟨cellB, hcB, hoB, hclB⟩, hPc⟩ := hp
  intro T hT X
  obtain ⟨v, vm₁, ⟨U', l2, c2, s2⟩, hW₁, X', ⟨g', mk, t, L, e1, e2, hq, h1, hL, h2, h3⟩, st⟩ := vx_callVW X hx (C := C) (hh := hh) (bytes := bytes) (maxL := maxL) (ret := ret) ho hl hin hse hcode hy hK (by rw [hT]; exact hcB) hoB hclB hg (hsize.trans hml.symm) (argsL := As) (rest := rest) (fun sig h => hn.trans (hlen sig h)) hstack hW (by rw [hb]; exact hdg)
    (fun vm₁ hW₁ => ⟨hf.1, hf.2, hPc (T.setVm vm₁) hT hW₁⟩)
  dsimp only [Pt.U, Pt.locs, Pt.cells, Pt.slots] at X' e1 e2 h1 h2 h3 st
  subst h1; subst h2; subst h3
  exact ⟨v, (T.setVm vm₁).calling g' mk (Value.ref b :: As).toArray, t, U', L, hT, X', hL, e1, e2, hq, st⟩
section
variable {y : MethodName} {bytes cc : ByteArray} {maxL nL mc ms n index : Nat} {ret : Option FieldType} {ws : List Cond} {rm : Room} {Pc : Array Value → State → Prop} {Qc : Array Value → State → Outcome → State → Prop} {XC : String → State → State → Prop} {free : Addr → Prop} {Ts : List Cond} {own C : String} {b : Addr} {As rest : List Value} {g : JFrame}
theorem vx_runVX {hh : List (Nat × Nat × Nat × Nat)} (S : CallFix p m c cc nL s args Ts own) (hM : vx_Met l y ws rm Pc Qc XC mc ms free) (cw : vx_CVW R s args own C index y bytes maxL ret hh ws rm mc ms n) (hp : PreV s H C b Pc As)
    (hg : g.method = m) (hn : As.length = n) (hsize : g.locals.size = nL) (hstack : g.stack = As.reverse ++ .ref b :: rest) (hW : 2 * g.monitorRoom + (rest.map fun v => v.category).sum ≤ 8) (hdg : decode cc g.pc = .ok (.invokevirtual index, 3)) (hf : cells + mc ≤ R.cells ∧ slots + ms ≤ R.slots) :
    vx_Run p l e R s m args below meth c H locs cells slots mc ms g rest (Qc (Value.ref b :: As).toArray) XC free := by
  obtain ⟨⟨hrc, hrs, hfr, hlo, hws, hcw⟩, hcode, hini, hy, hlen, hl, hin, hse⟩ := cw
  have hK : vx_Back l R p e below s args y 3 8 (PreOf R mc ms Pc) (PostOf Qc mc ms free) (vx_Post XC mc ms free) := vx_backW (hh := hh) (bytes := bytes) (maxL := maxL) (ret := ret) hM hp.1 hrc hrs hfr hlo hws hcw (fun a' U hW => word_at hW (Or.inl (by first | rfl | simp [Cond.onTables, Cond.keeps, Cond.steady])) hini)
  obtain ⟨hx, hb, hml, ho, -⟩ := S
  obtain ⟨-, ⟨cellB, hcB, hoB, hclB⟩, hPc⟩ := hp
  intro T hT X
  rcases vx_callVX X hx (C := C) (hh := hh) (bytes := bytes) (maxL := maxL) (ret := ret) ho hl hin hse hcode hy hK (by rw [hT]; exact hcB) hoB hclB hg (hsize.trans hml.symm) (argsL := As) (rest := rest) (fun sig h => hn.trans (hlen sig h)) hstack hW (by rw [hb]; exact hdg)
    (fun vm₁ hW₁ => ⟨hf.1, hf.2, hPc (T.setVm vm₁) hT hW₁⟩) with ⟨v, vm₁, ⟨U', l2, c2, s2⟩, hW₁, X', ⟨g', mk, t, L, e1, e2, hq, h1, hL, h2, h3⟩, st⟩ | ⟨q, vm₁, ⟨U', l2, c2, s2⟩, hW₁, X', ⟨g', mk, t, L, E, ce, e1, e2, hq, hce, hcv, hcl, h1, hL, h2, h3⟩, st⟩
  · dsimp only [Pt.U, Pt.locs, Pt.cells, Pt.slots] at X' e1 e2 h1 h2 h3 st
    subst h1; subst h2; subst h3
    exact Or.inl ⟨v, (T.setVm vm₁).calling g' mk (Value.ref b :: As).toArray, t, U', L, hT, X', hL, e1, e2, hq, st⟩
  · dsimp only [Pt.U, Pt.locs, Pt.cells, Pt.slots] at X' e1 e2 h1 h2 h3 st hcl
    subst h1; subst h2; subst h3
    exact Or.inr ⟨q, (T.setVm vm₁).calling g' mk (Value.ref b :: As).toArray, t, U', L, E, ce, hT, X', hL, e1, e2, hq, hce, hcv, vx_cls hW₁ hcl, st⟩
theorem vx_runSX {hh : List (Nat × Nat × Nat × Nat)} (S : CallFix p m c cc nL s args Ts own) (hM : vx_Met l y ws rm Pc Qc XC mc ms free) (cw : vx_CSW R s args own index y bytes maxL ret hh ws rm mc ms n) (hp : PreS s H Pc As)
    (hg : g.method = m) (hn : As.length = n) (hsize : g.locals.size = nL) (hstack : g.stack = As.reverse ++ rest) (hW : 2 * g.monitorRoom + (rest.map fun v => v.category).sum ≤ 8) (hdg : decode cc g.pc = .ok (.invokestatic index, 3)) (hf : cells + mc ≤ R.cells ∧ slots + ms ≤ R.slots) :
    vx_Run p l e R s m args below meth c H locs cells slots mc ms g rest (Qc As.toArray) XC free := by
  obtain ⟨⟨hrc, hrs, hfr, hlo, hws, hcw⟩, hcode, hini, hy, hlen, hl, hstt⟩ := cw
  have hK : vx_Back l R p e below s args y 3 8 (PreOf R mc ms Pc) (PostOf Qc mc ms free) (vx_Post XC mc ms free) := vx_backW (hh := hh) (bytes := bytes) (maxL := maxL) (ret := ret) hM hp.1 hrc hrs hfr hlo hws hcw (fun a' U hW => word_at hW (Or.inl (by first | rfl | simp [Cond.onTables, Cond.keeps, Cond.steady])) hini)
  obtain ⟨hx, hb, hml, ho, -⟩ := S
  intro T hT X
  rcases vx_callSX X hx (hh := hh) (bytes := bytes) (maxL := maxL) (ret := ret) ho hl hstt hini hcode hy hK hg (hsize.trans hml.symm) (argsL := As) (rest := rest) (fun sig h => hn.trans (hlen sig h)) hstack hW (by rw [hb]; exact hdg)
    (fun vm₁ hW₁ => ⟨hf.1, hf.2, hp.2 (T.setVm vm₁) hT hW₁⟩) with ⟨v, vm₁, ⟨U', l2, c2, s2⟩, hW₁, X', ⟨g', mk, t, L, e1, e2, hq, h1, hL, h2, h3⟩, st⟩ | ⟨q, vm₁, ⟨U', l2, c2, s2⟩, hW₁, X', ⟨g', mk, t, L, E, ce, e1, e2, hq, hce, hcv, hcl, h1, hL, h2, h3⟩, st⟩
  · dsimp only [Pt.U, Pt.locs, Pt.cells, Pt.slots] at X' e1 e2 h1 h2 h3 st
    subst h1; subst h2; subst h3
    exact Or.inl ⟨v, (T.setVm vm₁).calling g' mk As.toArray, t, U', L, hT, X', hL, e1, e2, hq, st⟩
  · dsimp only [Pt.U, Pt.locs, Pt.cells, Pt.slots] at X' e1 e2 h1 h2 h3 st hcl
    subst h1; subst h2; subst h3
    exact Or.inr ⟨q, (T.setVm vm₁).calling g' mk As.toArray, t, U', L, E, ce, hT, X', hL, e1, e2, hq, hce, hcv, vx_cls hW₁ hcl, st⟩
end
end VXH
theorem vx_ofWH {l : Launch} {y : MethodName} {ws ws' : List Cond} {rm : Room} {Pc : Array Value → State → Prop} {Qc : Array Value → State → Outcome → State → Prop} {XC : String → State → State → Prop} {mc ms : Nat} {free : Addr → Prop} {cc : ByteArray} {maxL : Nat} {ret : Option FieldType} {hh : List (Nat × Nat × Nat × Nat)}
    (hy : plainName y.cls = true) (hw : ws = Cond.codeWith y cc maxL ret hh :: ws')
    (body : ∀ p e s m args below meth c s₁, BodyLoose p l y (headSpec ws rm) cc maxL ret e s m args below meth c s₁ → c.maxLocals = maxL → Pc args s →
      W p l e (headSpec ws rm).room s m args below meth c s.heap [] 0 0 (vx_MQ below Qc XC args s mc ms free) (entryFrame m args maxL)) : vx_Met l y ws rm Pc Qc XC mc ms free := by
  refine MetFree.of_bodyS (code := cc) (maxLocals := maxL) (ret := ret) hy ?_ ?_
  · intro args s m h hn
    obtain ⟨m9, meth, c, hn9, h1, h2, h3, h4, -, h5, h6, -⟩ := Cond.codeWith_spec (atoms_spec (ws := ws) h _ (by rw [hw]; exact List.mem_cons_self))
    cases hn.symm.trans hn9
    exact ⟨meth, c, h1, h2, h3, h4, h5, h6⟩
  · intro p e s m args below meth c s₁ B hml hP _
    have hh0 : s₁.heap = s.heap := by rw [B.state]; rfl
    obtain ⟨t, a1, o, b1, b2, b3⟩ := body p e s m args below meth c s₁ B hml hP s₁ hh0 (Stand.of_body B)
    exact ⟨t, o, a1, b1, b2, b3⟩
/-! ===== END ===== -/
end
section
abbrev R_D : String := "PatchDesk"
abbrev R_B : String := "PatchDesk$Body"
abbrev R_Fn : String := "PatchDesk$Function"
abbrev R_P : String := "PatchDesk$Patch"
abbrev R_Fr : String := "PatchDesk$Frame"
abbrev R_T : String := "PatchDesk$Task"
abbrev R_M : String := "PatchDeskModel"
abbrev R_L : String := "PatchDeskLaw"
abbrev R_AL : String := "java/util/ArrayList"
abbrev R_ABL : String := "java/util/AbstractList"
abbrev R_ABC : String := "java/util/AbstractCollection"
abbrev R_OB : String := "java/util/Objects"
abbrev R_PC : String := "jdk/internal/util/Preconditions"
abbrev R_MA : String := "java/lang/Math"
def T_AL : u_T := fun k => match k with
  | 0 => ("java/util/ArrayList", "elementData", "[Ljava/lang/Object;", false)
  | 1 => ("java/util/ArrayList", "size", "I", false)
  | _ => ("java/util/AbstractList", "modCount", "I", false)
def ty_AL : Nat → FieldType := fun k => match k with
  | 0 => .array (.object "java/lang/Object")
  | 1 => .int
  | _ => .int
theorem n_AL : ∀ a, a < 3 → ∀ b, b < 3 → a ≠ b → (T_AL a).2.1 ≠ (T_AL b).2.1 := by decide +kernel
theorem k_AL : ∀ k, k < 3 → parseFieldDescriptor (T_AL k).2.2.1 = some (ty_AL k) := by decide +kernel
set_option maxRecDepth 20000 in
theorem I_AL : ∀ w ∈ u_ws R_AL T_AL 3, w ∈ gws := gw_all _ [78, 80, 82] (by decide +kernel) (by decide +kernel)
theorem N_AL : Cond.instantiable R_AL 3 ∈ gws := gw_in 60 (by decide +kernel) (by decide +kernel)
def T_B : u_T := fun k => match k with
  | 0 => ("PatchDesk$Body", "kinds", "[I", true)
  | 1 => ("PatchDesk$Body", "numbers", "[I", true)
  | _ => ("PatchDesk$Body", "size", "I", false)
def ty_B : Nat → FieldType := fun k => match k with
  | 0 => .array .int
  | 1 => .array .int
  | _ => .int
theorem n_B : ∀ a, a < 3 → ∀ b, b < 3 → a ≠ b → (T_B a).2.1 ≠ (T_B b).2.1 := by decide +kernel
theorem k_B : ∀ k, k < 3 → parseFieldDescriptor (T_B k).2.2.1 = some (ty_B k) := by decide +kernel
set_option maxRecDepth 20000 in
theorem I_B : ∀ w ∈ u_ws R_B T_B 3, w ∈ gws := gw_all _ [259, 261, 263] (by decide +kernel) (by decide +kernel)
theorem N_B : Cond.instantiable R_B 3 ∈ gws := gw_in 247 (by decide +kernel) (by decide +kernel)
def T_Fn : u_T := fun k => match k with
  | 0 => ("PatchDesk$Function", "signature", "I", true)
  | _ => ("PatchDesk$Function", "first", "LPatchDesk$Body;", true)
def ty_Fn : Nat → FieldType := fun k => match k with
  | 0 => .int
  | _ => .object "PatchDesk$Body"
theorem n_Fn : ∀ a, a < 2 → ∀ b, b < 2 → a ≠ b → (T_Fn a).2.1 ≠ (T_Fn b).2.1 := by decide +kernel
theorem k_Fn : ∀ k, k < 2 → parseFieldDescriptor (T_Fn k).2.2.1 = some (ty_Fn k) := by decide +kernel
set_option maxRecDepth 20000 in
theorem I_Fn : ∀ w ∈ u_ws R_Fn T_Fn 2, w ∈ gws := gw_all _ [270, 272] (by decide +kernel) (by decide +kernel)
theorem N_Fn : Cond.instantiable R_Fn 2 ∈ gws := gw_in 241 (by decide +kernel) (by decide +kernel)
def T_P : u_T := fun k => match k with
  | 0 => ("PatchDesk$Patch", "bodies", "[LPatchDesk$Body;", true)
  | 1 => ("PatchDesk$Patch", "signatures", "[I", true)
  | _ => ("PatchDesk$Patch", "named", "I", false)
def ty_P : Nat → FieldType := fun k => match k with
  | 0 => .array (.object "PatchDesk$Body")
  | 1 => .array .int
  | _ => .int
theorem n_P : ∀ a, a < 3 → ∀ b, b < 3 → a ≠ b → (T_P a).2.1 ≠ (T_P b).2.1 := by decide +kernel
theorem k_P : ∀ k, k < 3 → parseFieldDescriptor (T_P k).2.2.1 = some (ty_P k) := by decide +kernel
set_option maxRecDepth 20000 in
theorem I_P : ∀ w ∈ u_ws R_P T_P 3, w ∈ gws := gw_all _ [99, 101, 103] (by decide +kernel) (by decide +kernel)
theorem N_P : Cond.instantiable R_P 3 ∈ gws := gw_in 86 (by decide +kernel) (by decide +kernel)
def T_Fr : u_T := fun k => match k with
  | 0 => ("PatchDesk$Frame", "function", "I", false)
  | 1 => ("PatchDesk$Frame", "level", "I", false)
  | 2 => ("PatchDesk$Frame", "body", "LPatchDesk$Body;", false)
  | 3 => ("PatchDesk$Frame", "place", "I", false)
  | _ => ("PatchDesk$Frame", "repeats", "I", false)
def ty_Fr : Nat → FieldType := fun k => match k with
  | 0 => .int
  | 1 => .int
  | 2 => .object "PatchDesk$Body"
  | 3 => .int
  | _ => .int
theorem n_Fr : ∀ a, a < 5 → ∀ b, b < 5 → a ≠ b → (T_Fr a).2.1 ≠ (T_Fr b).2.1 := by decide +kernel
theorem k_Fr : ∀ k, k < 5 → parseFieldDescriptor (T_Fr k).2.2.1 = some (ty_Fr k) := by decide +kernel
set_option maxRecDepth 20000 in
theorem I_Fr : ∀ w ∈ u_ws R_Fr T_Fr 5, w ∈ gws := gw_all _ [480, 482, 484, 486, 488] (by decide +kernel) (by decide +kernel)
theorem N_Fr : Cond.instantiable R_Fr 5 ∈ gws := gw_in 467 (by decide +kernel) (by decide +kernel)
def T_T : u_T := fun k => match k with
  | 0 => ("PatchDesk$Task", "frames", "[LPatchDesk$Frame;", true)
  | 1 => ("PatchDesk$Task", "depth", "I", false)
  | 2 => ("PatchDesk$Task", "level", "I", false)
  | 3 => ("PatchDesk$Task", "sum", "I", false)
  | 4 => ("PatchDesk$Task", "steps", "I", false)
  | 5 => ("PatchDesk$Task", "outs", "I", false)
  | _ => ("PatchDesk$Task", "latestOut", "I", false)
def ty_T : Nat → FieldType := fun k => match k with
  | 0 => .array (.object "PatchDesk$Frame")
  | 1 => .int
  | 2 => .int
  | 3 => .int
  | 4 => .int
  | 5 => .int
  | _ => .int
theorem n_T : ∀ a, a < 7 → ∀ b, b < 7 → a ≠ b → (T_T a).2.1 ≠ (T_T b).2.1 := by decide +kernel
theorem k_T : ∀ k, k < 7 → parseFieldDescriptor (T_T k).2.2.1 = some (ty_T k) := by decide +kernel
set_option maxRecDepth 20000 in
theorem I_T : ∀ w ∈ u_ws R_T T_T 7, w ∈ gws := gw_all _ [508, 510, 512, 514, 516, 518, 520] (by decide +kernel) (by decide +kernel)
theorem N_T : Cond.instantiable R_T 7 ∈ gws := gw_in 456 (by decide +kernel) (by decide +kernel)
def T_D : u_T := fun k => match k with
  | 0 => ("PatchDesk", "functions", "Ljava/util/ArrayList;", true)
  | 1 => ("PatchDesk", "applied", "Ljava/util/ArrayList;", true)
  | 2 => ("PatchDesk", "tasks", "Ljava/util/ArrayList;", true)
  | 3 => ("PatchDesk", "draft", "LPatchDesk$Patch;", false)
  | _ => ("PatchDesk", "goal", "I", false)
def ty_D : Nat → FieldType := fun k => match k with
  | 0 => .object "java/util/ArrayList"
  | 1 => .object "java/util/ArrayList"
  | 2 => .object "java/util/ArrayList"
  | 3 => .object "PatchDesk$Patch"
  | _ => .int
theorem n_D : ∀ a, a < 5 → ∀ b, b < 5 → a ≠ b → (T_D a).2.1 ≠ (T_D b).2.1 := by decide +kernel
theorem k_D : ∀ k, k < 5 → parseFieldDescriptor (T_D k).2.2.1 = some (ty_D k) := by decide +kernel
set_option maxRecDepth 20000 in
theorem I_D : ∀ w ∈ u_ws R_D T_D 5, w ∈ gws := gw_all _ [112, 114, 116, 118, 120] (by decide +kernel) (by decide +kernel)
theorem N_D : Cond.instantiable R_D 5 ∈ gws := gw_in 52 (by decide +kernel) (by decide +kernel)
def T_M : u_T := fun k => match k with
  | 0 => ("PatchDeskModel", "thrown", "I", false)
  | 1 => ("PatchDeskModel", "functions", "I", false)
  | 2 => ("PatchDeskModel", "has", "[Z", true)
  | 3 => ("PatchDeskModel", "signature", "[I", true)
  | 4 => ("PatchDeskModel", "size", "[I", true)
  | 5 => ("PatchDeskModel", "kind", "[I", true)
  | 6 => ("PatchDeskModel", "number", "[I", true)
  | 7 => ("PatchDeskModel", "named", "I", false)
  | 8 => ("PatchDeskModel", "top", "I", false)
  | 9 => ("PatchDeskModel", "target", "I", false)
  | 10 => ("PatchDeskModel", "tasks", "I", false)
  | 11 => ("PatchDeskModel", "main", "[I", true)
  | 12 => ("PatchDeskModel", "levelOf", "[I", true)
  | 13 => ("PatchDeskModel", "sum", "[I", true)
  | 14 => ("PatchDeskModel", "steps", "[I", true)
  | 15 => ("PatchDeskModel", "outs", "[I", true)
  | 16 => ("PatchDeskModel", "latest", "[I", true)
  | 17 => ("PatchDeskModel", "depth", "[I", true)
  | 18 => ("PatchDeskModel", "row", "[I", true)
  | 19 => ("PatchDeskModel", "frameLevel", "[I", true)
  | 20 => ("PatchDeskModel", "at", "[I", true)
  | _ => ("PatchDeskModel", "repeats", "[I", true)
def ty_M : Nat → FieldType := fun k => match k with
  | 0 => .int
  | 1 => .int
  | 2 => .array .boolean
  | 3 => .array .int
  | 4 => .array .int
  | 5 => .array .int
  | 6 => .array .int
  | 7 => .int
  | 8 => .int
  | 9 => .int
  | 10 => .int
  | 11 => .array .int
  | 12 => .array .int
  | 13 => .array .int
  | 14 => .array .int
  | 15 => .array .int
  | 16 => .array .int
  | 17 => .array .int
  | 18 => .array .int
  | 19 => .array .int
  | 20 => .array .int
  | _ => .array .int
theorem n_M : ∀ a, a < 22 → ∀ b, b < 22 → a ≠ b → (T_M a).2.1 ≠ (T_M b).2.1 := by decide +kernel
theorem k_M : ∀ k, k < 22 → parseFieldDescriptor (T_M k).2.2.1 = some (ty_M k) := by decide +kernel
set_option maxRecDepth 20000 in
theorem I_M : ∀ w ∈ u_ws R_M T_M 22, w ∈ gws := gw_all _ [648, 650, 652, 654, 656, 658, 660, 662, 664, 666, 668, 670, 672, 674, 676, 678, 680, 682, 684, 686, 688, 690] (by decide +kernel) (by decide +kernel)
theorem N_M : Cond.instantiable R_M 22 ∈ gws := gw_in 621 (by decide +kernel) (by decide +kernel)
theorem Z_D : Cond.initialized R_D ∈ gws := gw_in 28 (by decide +kernel) (by decide +kernel)
theorem Z_B : Cond.initialized R_B ∈ gws := gw_in 40 (by decide +kernel) (by decide +kernel)
theorem Z_Fn : Cond.initialized R_Fn ∈ gws := gw_in 39 (by decide +kernel) (by decide +kernel)
theorem Z_P : Cond.initialized R_P ∈ gws := gw_in 32 (by decide +kernel) (by decide +kernel)
theorem Z_Fr : Cond.initialized R_Fr ∈ gws := gw_in 49 (by decide +kernel) (by decide +kernel)
theorem Z_T : Cond.initialized R_T ∈ gws := gw_in 48 (by decide +kernel) (by decide +kernel)
theorem Z_M : Cond.initialized R_M ∈ gws := gw_in 33 (by decide +kernel) (by decide +kernel)
theorem Z_L : Cond.initialized R_L ∈ gws := gw_in 27 (by decide +kernel) (by decide +kernel)
theorem Z_AL : Cond.initialized R_AL ∈ gws := gw_in 31 (by decide +kernel) (by decide +kernel)
theorem Z_ABL : Cond.initialized R_ABL ∈ gws := gw_in 30 (by decide +kernel) (by decide +kernel)
theorem Z_ABC : Cond.initialized R_ABC ∈ gws := gw_in 29 (by decide +kernel) (by decide +kernel)
theorem Z_OB : Cond.initialized R_OB ∈ gws := gw_in 45 (by decide +kernel) (by decide +kernel)
theorem Z_PC : Cond.initialized R_PC ∈ gws := gw_in 46 (by decide +kernel) (by decide +kernel)
theorem Z_MA : Cond.initialized R_MA ∈ gws := gw_in 42 (by decide +kernel) (by decide +kernel)
abbrev vwCl : List vw_C := [(R_AL, T_AL, 3), (R_B, T_B, 3), (R_Fn, T_Fn, 2), (R_P, T_P, 3), (R_Fr, T_Fr, 5), (R_T, T_T, 7), (R_D, T_D, 5), (R_M, T_M, 22)]
abbrev b_D_init : ByteArray := prog_1_method_1_code
abbrev y_D_init : MethodName := ⟨R_D, "<init>", "()V"⟩
abbrev b_AL_init : ByteArray := prog_23_method_2_code
abbrev y_AL_init : MethodName := ⟨R_AL, "<init>", "()V"⟩
abbrev b_ABL_init : ByteArray := prog_22_method_1_code
abbrev y_ABL_init : MethodName := ⟨R_ABL, "<init>", "()V"⟩
abbrev b_ABC_init : ByteArray := prog_21_method_1_code
abbrev y_ABC_init : MethodName := ⟨R_ABC, "<init>", "()V"⟩
abbrev b_P_init : ByteArray := prog_5_method_1_code
abbrev y_P_init : MethodName := ⟨R_P, "<init>", "()V"⟩
abbrev b_D_patches : ByteArray := prog_1_method_11_code
abbrev y_D_patches : MethodName := ⟨R_D, "patches", "()I"⟩
abbrev b_AL_size : ByteArray := prog_23_method_8_code
abbrev y_AL_size : MethodName := ⟨R_AL, "size", "()I"⟩
abbrev b_D_target : ByteArray := prog_1_method_12_code
abbrev y_D_target : MethodName := ⟨R_D, "target", "()I"⟩
abbrev b_D_function : ByteArray := prog_1_method_2_code
abbrev y_D_function : MethodName := ⟨R_D, "function", "(I)I"⟩
abbrev b_D_isSignature : ByteArray := prog_1_method_16_code
abbrev y_D_isSignature : MethodName := ⟨R_D, "isSignature", "(I)Z"⟩
abbrev b_D_isInUse : ByteArray := prog_1_method_17_code
abbrev y_D_isInUse : MethodName := ⟨R_D, "isInUse", "()Z"⟩
abbrev b_AL_isEmpty : ByteArray := prog_23_method_9_code
abbrev y_AL_isEmpty : MethodName := ⟨R_AL, "isEmpty", "()Z"⟩
abbrev b_Fn_init : ByteArray := prog_4_method_1_code
abbrev y_Fn_init : MethodName := ⟨R_Fn, "<init>", "(I)V"⟩
abbrev b_B_init : ByteArray := prog_2_method_1_code
abbrev y_B_init : MethodName := ⟨R_B, "<init>", "()V"⟩
abbrev b_AL_add0 : ByteArray := prog_23_method_25_code
abbrev y_AL_add0 : MethodName := ⟨R_AL, "add", "(Ljava/lang/Object;)Z"⟩
abbrev b_AL_add1 : ByteArray := prog_23_method_24_code
abbrev y_AL_add1 : MethodName := ⟨R_AL, "add", "(Ljava/lang/Object;[Ljava/lang/Object;I)V"⟩
abbrev b_AL_grow0 : ByteArray := prog_23_method_7_code
abbrev y_AL_grow0 : MethodName := ⟨R_AL, "grow", "()[Ljava/lang/Object;"⟩
abbrev b_AL_grow1 : ByteArray := prog_23_method_6_code
abbrev y_AL_grow1 : MethodName := ⟨R_AL, "grow", "(I)[Ljava/lang/Object;"⟩
abbrev b_MA_max : ByteArray := prog_15_method_65_code
abbrev y_MA_max : MethodName := ⟨R_MA, "max", "(II)I"⟩
abbrev b_MA_min : ByteArray := prog_15_method_69_code
abbrev y_MA_min : MethodName := ⟨R_MA, "min", "(II)I"⟩
abbrev b_D_operation : ByteArray := prog_1_method_3_code
abbrev y_D_operation : MethodName := ⟨R_D, "operation", "(IZII)I"⟩
abbrev b_D_isFunction : ByteArray := prog_1_method_14_code
abbrev y_D_isFunction : MethodName := ⟨R_D, "isFunction", "(I)Z"⟩
abbrev b_P_hasNamed : ByteArray := prog_5_method_2_code
abbrev y_P_hasNamed : MethodName := ⟨R_P, "hasNamed", "(I)Z"⟩
abbrev b_AL_get : ByteArray := prog_23_method_20_code
abbrev y_AL_get : MethodName := ⟨R_AL, "get", "(I)Ljava/lang/Object;"⟩
abbrev b_OB_checkIndex : ByteArray := prog_28_method_17_code
abbrev y_OB_checkIndex : MethodName := ⟨R_OB, "checkIndex", "(II)I"⟩
abbrev b_PC_checkIndex : ByteArray := prog_32_method_11_code
abbrev y_PC_checkIndex : MethodName := ⟨R_PC, "checkIndex", "(IILjava/util/function/BiFunction;)I"⟩
abbrev b_AL_elementData : ByteArray := prog_23_method_18_code
abbrev y_AL_elementData : MethodName := ⟨R_AL, "elementData", "(I)Ljava/lang/Object;"⟩
abbrev b_D_isOperation : ByteArray := prog_1_method_18_code
abbrev y_D_isOperation : MethodName := ⟨R_D, "isOperation", "(III)Z"⟩
abbrev b_B_isFull : ByteArray := prog_2_method_2_code
abbrev y_B_isFull : MethodName := ⟨R_B, "isFull", "()Z"⟩
abbrev b_B_append : ByteArray := prog_2_method_3_code
abbrev y_B_append : MethodName := ⟨R_B, "append", "(II)V"⟩
abbrev b_D_name : ByteArray := prog_1_method_4_code
abbrev y_D_name : MethodName := ⟨R_D, "name", "(II)I"⟩
abbrev b_P_include : ByteArray := prog_5_method_3_code
abbrev y_P_include : MethodName := ⟨R_P, "include", "(II)V"⟩
abbrev b_D_apply : ByteArray := prog_1_method_5_code
abbrev y_D_apply : MethodName := ⟨R_D, "apply", "()I"⟩
abbrev b_D_keepsSignatures : ByteArray := prog_1_method_19_code
abbrev y_D_keepsSignatures : MethodName := ⟨R_D, "keepsSignatures", "(LPatchDesk$Patch;)Z"⟩
abbrev b_D_headFor : ByteArray := prog_1_method_21_code
abbrev y_D_headFor : MethodName := ⟨R_D, "headFor", "(I)V"⟩
abbrev b_D_endTransitionWhenAllAreOver : ByteArray := prog_1_method_22_code
abbrev y_D_endTransitionWhenAllAreOver : MethodName := ⟨R_D, "endTransitionWhenAllAreOver", "()V"⟩
abbrev b_AL_remove : ByteArray := prog_23_method_29_code
abbrev y_AL_remove : MethodName := ⟨R_AL, "remove", "(I)Ljava/lang/Object;"⟩
abbrev b_AL_fastRemove : ByteArray := prog_23_method_39_code
abbrev y_AL_fastRemove : MethodName := ⟨R_AL, "fastRemove", "([Ljava/lang/Object;I)V"⟩
abbrev b_D_turn : ByteArray := prog_1_method_6_code
abbrev y_D_turn : MethodName := ⟨R_D, "turn", "()I"⟩
abbrev b_D_task : ByteArray := prog_1_method_7_code
abbrev y_D_task : MethodName := ⟨R_D, "task", "(I)I"⟩
abbrev b_D_bodyAt : ByteArray := prog_1_method_20_code
abbrev y_D_bodyAt : MethodName := ⟨R_D, "bodyAt", "(II)LPatchDesk$Body;"⟩
abbrev b_T_init : ByteArray := prog_6_method_1_code
abbrev y_T_init : MethodName := ⟨R_T, "<init>", "(IILPatchDesk$Body;)V"⟩
abbrev b_Fr_init : ByteArray := prog_3_method_1_code
abbrev y_Fr_init : MethodName := ⟨R_Fr, "<init>", "(LPatchDesk$Body;)V"⟩
abbrev b_Fr_begin : ByteArray := prog_3_method_2_code
abbrev y_Fr_begin : MethodName := ⟨R_Fr, "begin", "(IILPatchDesk$Body;)V"⟩
abbrev b_D_step : ByteArray := prog_1_method_8_code
abbrev y_D_step : MethodName := ⟨R_D, "step", "(II)I"⟩
abbrev b_D_isTask : ByteArray := prog_1_method_15_code
abbrev y_D_isTask : MethodName := ⟨R_D, "isTask", "(I)Z"⟩
abbrev b_D_canGoOver : ByteArray := prog_1_method_23_code
abbrev y_D_canGoOver : MethodName := ⟨R_D, "canGoOver", "(LPatchDesk$Task;)Z"⟩
abbrev b_T_top : ByteArray := prog_6_method_2_code
abbrev y_T_top : MethodName := ⟨R_T, "top", "()LPatchDesk$Frame;"⟩
abbrev b_Fr_nextKind : ByteArray := prog_3_method_3_code
abbrev y_Fr_nextKind : MethodName := ⟨R_Fr, "nextKind", "()I"⟩
abbrev b_D_hasPatchedFrame : ByteArray := prog_1_method_24_code
abbrev y_D_hasPatchedFrame : MethodName := ⟨R_D, "hasPatchedFrame", "(LPatchDesk$Task;)Z"⟩
abbrev b_D_isInLatestPatch : ByteArray := prog_1_method_25_code
abbrev y_D_isInLatestPatch : MethodName := ⟨R_D, "isInLatestPatch", "(I)Z"⟩
abbrev b_D_stepOnce : ByteArray := prog_1_method_26_code
abbrev y_D_stepOnce : MethodName := ⟨R_D, "stepOnce", "(LPatchDesk$Task;)V"⟩
abbrev b_D_leaveTopFrame : ByteArray := prog_1_method_28_code
abbrev y_D_leaveTopFrame : MethodName := ⟨R_D, "leaveTopFrame", "(LPatchDesk$Task;)V"⟩
abbrev b_Fr_nextNumber : ByteArray := prog_3_method_4_code
abbrev y_Fr_nextNumber : MethodName := ⟨R_Fr, "nextNumber", "()I"⟩
abbrev b_D_enter : ByteArray := prog_1_method_27_code
abbrev y_D_enter : MethodName := ⟨R_D, "enter", "(LPatchDesk$Task;I)V"⟩
abbrev b_Fr_repeatFrom : ByteArray := prog_3_method_5_code
abbrev y_Fr_repeatFrom : MethodName := ⟨R_Fr, "repeatFrom", "(I)V"⟩
abbrev b_T_putOut : ByteArray := prog_6_method_3_code
abbrev y_T_putOut : MethodName := ⟨R_T, "putOut", "()V"⟩
abbrev b_D_look : ByteArray := prog_1_method_9_code
abbrev y_D_look : MethodName := ⟨R_D, "look", "(II)I"⟩
abbrev b_D_frame : ByteArray := prog_1_method_10_code
abbrev y_D_frame : MethodName := ⟨R_D, "frame", "(III)I"⟩
abbrev b_D_body : ByteArray := prog_1_method_13_code
abbrev y_D_body : MethodName := ⟨R_D, "body", "(II)I"⟩
abbrev b_M_init : ByteArray := prog_8_method_1_code
abbrev y_M_init : MethodName := ⟨R_M, "<init>", "()V"⟩
abbrev b_M_thrown : ByteArray := prog_8_method_2_code
abbrev y_M_thrown : MethodName := ⟨R_M, "thrown", "()I"⟩
abbrev b_M_function : ByteArray := prog_8_method_6_code
abbrev y_M_function : MethodName := ⟨R_M, "function", "(I)I"⟩
abbrev b_M_inn : ByteArray := prog_8_method_3_code
abbrev y_M_inn : MethodName := ⟨R_M, "in", "(III)Z"⟩
abbrev b_M_fresh : ByteArray := prog_8_method_5_code
abbrev y_M_fresh : MethodName := ⟨R_M, "fresh", "()Z"⟩
abbrev b_M_operation : ByteArray := prog_8_method_7_code
abbrev y_M_operation : MethodName := ⟨R_M, "operation", "(IZII)I"⟩
abbrev b_M_name : ByteArray := prog_8_method_8_code
abbrev y_M_name : MethodName := ⟨R_M, "name", "(II)I"⟩
abbrev b_M_apply : ByteArray := prog_8_method_11_code
abbrev y_M_apply : MethodName := ⟨R_M, "apply", "()I"⟩
abbrev b_M_takeBody : ByteArray := prog_8_method_12_code
abbrev y_M_takeBody : MethodName := ⟨R_M, "takeBody", "(II)V"⟩
abbrev b_M_settle : ByteArray := prog_8_method_10_code
abbrev y_M_settle : MethodName := ⟨R_M, "settle", "()V"⟩
abbrev b_M_turn : ByteArray := prog_8_method_13_code
abbrev y_M_turn : MethodName := ⟨R_M, "turn", "()I"⟩
abbrev b_M_task : ByteArray := prog_8_method_15_code
abbrev y_M_task : MethodName := ⟨R_M, "task", "(I)I"⟩
abbrev b_M_enter : ByteArray := prog_8_method_14_code
abbrev y_M_enter : MethodName := ⟨R_M, "enter", "(II)V"⟩
abbrev b_M_bodyRow : ByteArray := prog_8_method_9_code
abbrev y_M_bodyRow : MethodName := ⟨R_M, "bodyRow", "(II)I"⟩
abbrev b_M_step : ByteArray := prog_8_method_18_code
abbrev y_M_step : MethodName := ⟨R_M, "step", "(II)I"⟩
abbrev b_M_goes : ByteArray := prog_8_method_16_code
abbrev y_M_goes : MethodName := ⟨R_M, "goes", "(I)Z"⟩
abbrev b_M_stepOnce : ByteArray := prog_8_method_17_code
abbrev y_M_stepOnce : MethodName := ⟨R_M, "stepOnce", "(I)V"⟩
abbrev b_M_look : ByteArray := prog_8_method_19_code
abbrev y_M_look : MethodName := ⟨R_M, "look", "(II)I"⟩
abbrev b_M_fail : ByteArray := prog_8_method_4_code
abbrev y_M_fail : MethodName := ⟨R_M, "fail", "(I)I"⟩
abbrev b_M_frame : ByteArray := prog_8_method_20_code
abbrev y_M_frame : MethodName := ⟨R_M, "frame", "(III)I"⟩
abbrev b_M_patches : ByteArray := prog_8_method_21_code
abbrev y_M_patches : MethodName := ⟨R_M, "patches", "()I"⟩
abbrev b_M_target : ByteArray := prog_8_method_22_code
abbrev y_M_target : MethodName := ⟨R_M, "target", "()I"⟩
abbrev b_M_body : ByteArray := prog_8_method_23_code
abbrev y_M_body : MethodName := ⟨R_M, "body", "(II)I"⟩
abbrev b_L_function : ByteArray := method_3_code
abbrev y_L_function : MethodName := ⟨R_L, "function", "(LPatchDesk;I[J)I"⟩
abbrev b_L_operation : ByteArray := method_4_code
abbrev y_L_operation : MethodName := ⟨R_L, "operation", "(LPatchDesk;IZII[J)I"⟩
abbrev b_L_name : ByteArray := method_5_code
abbrev y_L_name : MethodName := ⟨R_L, "name", "(LPatchDesk;II[J)I"⟩
abbrev b_L_apply : ByteArray := method_6_code
abbrev y_L_apply : MethodName := ⟨R_L, "apply", "(LPatchDesk;[J)I"⟩
abbrev b_L_turn : ByteArray := method_7_code
abbrev y_L_turn : MethodName := ⟨R_L, "turn", "(LPatchDesk;[J)I"⟩
abbrev b_L_task : ByteArray := method_8_code
abbrev y_L_task : MethodName := ⟨R_L, "task", "(LPatchDesk;I[J)I"⟩
abbrev b_L_step : ByteArray := method_9_code
abbrev y_L_step : MethodName := ⟨R_L, "step", "(LPatchDesk;II[J)I"⟩
abbrev b_L_look : ByteArray := method_10_code
abbrev y_L_look : MethodName := ⟨R_L, "look", "(LPatchDesk;II[J)I"⟩
abbrev b_L_frame : ByteArray := method_11_code
abbrev y_L_frame : MethodName := ⟨R_L, "frame", "(LPatchDesk;III[J)I"⟩
abbrev b_L_body : ByteArray := method_12_code
abbrev y_L_body : MethodName := ⟨R_L, "body", "(LPatchDesk;II[J)I"⟩
/-- what the tables say of a call: of a method of an object, of a static one, of a constructor -/
def cwdV (own : String) (index : Nat) (y : MethodName) (bytes : ByteArray) (maxL : Nat) (ret : Option FieldType) (n : Nat) : Prop :=
  (Cond.methodLink own index y ∈ gws ∧ Cond.instanceMethod y ∈ gws ∧ Cond.selects y.cls y y ∈ gws ∧ Cond.initialized y.cls ∈ gws ∧ Cond.code y bytes maxL ret ∈ gws) ∧ y.cls ≠ "java/lang/invoke/MethodHandle" ∧ y.cls ≠ "java/lang/invoke/VarHandle" ∧ (parseMethodDescriptor y.desc).map (fun d => d.parameters.length) = some n
def cwdS (own : String) (index : Nat) (y : MethodName) (bytes : ByteArray) (maxL : Nat) (ret : Option FieldType) (n : Nat) : Prop :=
  (Cond.methodLink own index y ∈ gws ∧ Cond.static y ∈ gws ∧ Cond.initialized y.cls ∈ gws ∧ Cond.code y bytes maxL ret ∈ gws) ∧ y.cls ≠ "java/lang/invoke/MethodHandle" ∧ y.cls ≠ "java/lang/invoke/VarHandle" ∧ (parseMethodDescriptor y.desc).map (fun d => d.parameters.length) = some n
def cwdI (own : String) (index : Nat) (y : MethodName) (bytes : ByteArray) (maxL : Nat) (n : Nat) : Prop :=
  (Cond.methodLink own index y ∈ gws ∧ Cond.instanceMethod y ∈ gws ∧ Cond.initialized y.cls ∈ gws ∧ Cond.code y bytes maxL none ∈ gws) ∧ (y.cls ≠ "java/lang/invoke/MethodHandle" ∧ y.cls ≠ "java/lang/invoke/VarHandle" ∧ (parseMethodDescriptor y.desc).map (fun d => d.parameters.length) = some n) ∧ y.name = "<init>"
theorem L_D_10 : Cond.fieldLink R_D 10 "PatchDesk" "functions" "Ljava/util/ArrayList;" ∈ gws := gw_in 107 (by decide +kernel) (by decide +kernel)
theorem L_D_16 : Cond.fieldLink R_D 16 "PatchDesk" "applied" "Ljava/util/ArrayList;" ∈ gws := gw_in 108 (by decide +kernel) (by decide +kernel)
theorem L_D_19 : Cond.fieldLink R_D 19 "PatchDesk" "tasks" "Ljava/util/ArrayList;" ∈ gws := gw_in 109 (by decide +kernel) (by decide +kernel)
theorem L_D_25 : Cond.fieldLink R_D 25 "PatchDesk" "draft" "LPatchDesk$Patch;" ∈ gws := gw_in 110 (by decide +kernel) (by decide +kernel)
theorem L_D_29 : Cond.fieldLink R_D 29 "PatchDesk" "goal" "I" ∈ gws := gw_in 111 (by decide +kernel) (by decide +kernel)
theorem L_D_74 : Cond.fieldLink R_D 74 "PatchDesk$Patch" "bodies" "[LPatchDesk$Body;" ∈ gws := gw_in 94 (by decide +kernel) (by decide +kernel)
theorem L_D_82 : Cond.fieldLink R_D 82 "PatchDesk$Function" "first" "LPatchDesk$Body;" ∈ gws := gw_in 269 (by decide +kernel) (by decide +kernel)
theorem L_D_86 : Cond.fieldLink R_D 86 "PatchDesk$Body" "size" "I" ∈ gws := gw_in 258 (by decide +kernel) (by decide +kernel)
theorem L_D_110 : Cond.fieldLink R_D 110 "PatchDesk$Patch" "named" "I" ∈ gws := gw_in 98 (by decide +kernel) (by decide +kernel)
theorem L_D_153 : Cond.fieldLink R_D 153 "PatchDesk$Task" "level" "I" ∈ gws := gw_in 500 (by decide +kernel) (by decide +kernel)
theorem L_D_165 : Cond.fieldLink R_D 165 "PatchDesk$Task" "sum" "I" ∈ gws := gw_in 502 (by decide +kernel) (by decide +kernel)
theorem L_D_168 : Cond.fieldLink R_D 168 "PatchDesk$Task" "depth" "I" ∈ gws := gw_in 498 (by decide +kernel) (by decide +kernel)
theorem L_D_171 : Cond.fieldLink R_D 171 "PatchDesk$Task" "steps" "I" ∈ gws := gw_in 503 (by decide +kernel) (by decide +kernel)
theorem L_D_174 : Cond.fieldLink R_D 174 "PatchDesk$Task" "outs" "I" ∈ gws := gw_in 505 (by decide +kernel) (by decide +kernel)
theorem L_D_177 : Cond.fieldLink R_D 177 "PatchDesk$Task" "latestOut" "I" ∈ gws := gw_in 507 (by decide +kernel) (by decide +kernel)
theorem L_D_185 : Cond.fieldLink R_D 185 "PatchDesk$Task" "frames" "[LPatchDesk$Frame;" ∈ gws := gw_in 496 (by decide +kernel) (by decide +kernel)
theorem L_D_189 : Cond.fieldLink R_D 189 "PatchDesk$Frame" "function" "I" ∈ gws := gw_in 473 (by decide +kernel) (by decide +kernel)
theorem L_D_194 : Cond.fieldLink R_D 194 "PatchDesk$Frame" "level" "I" ∈ gws := gw_in 475 (by decide +kernel) (by decide +kernel)
theorem L_D_195 : Cond.fieldLink R_D 195 "PatchDesk$Frame" "place" "I" ∈ gws := gw_in 478 (by decide +kernel) (by decide +kernel)
theorem L_D_203 : Cond.fieldLink R_D 203 "PatchDesk$Patch" "signatures" "[I" ∈ gws := gw_in 96 (by decide +kernel) (by decide +kernel)
theorem L_D_207 : Cond.fieldLink R_D 207 "PatchDesk$Function" "signature" "I" ∈ gws := gw_in 267 (by decide +kernel) (by decide +kernel)
theorem L_B_9 : Cond.fieldLink R_B 9 "PatchDesk$Body" "kinds" "[I" ∈ gws := gw_in 252 (by decide +kernel) (by decide +kernel)
theorem L_B_15 : Cond.fieldLink R_B 15 "PatchDesk$Body" "numbers" "[I" ∈ gws := gw_in 254 (by decide +kernel) (by decide +kernel)
theorem L_B_18 : Cond.fieldLink R_B 18 "PatchDesk$Body" "size" "I" ∈ gws := gw_in 256 (by decide +kernel) (by decide +kernel)
theorem L_Fr_9 : Cond.fieldLink R_Fr 9 "PatchDesk$Frame" "body" "LPatchDesk$Body;" ∈ gws := gw_in 476 (by decide +kernel) (by decide +kernel)
theorem L_Fr_15 : Cond.fieldLink R_Fr 15 "PatchDesk$Frame" "function" "I" ∈ gws := gw_in 472 (by decide +kernel) (by decide +kernel)
theorem L_Fr_19 : Cond.fieldLink R_Fr 19 "PatchDesk$Frame" "level" "I" ∈ gws := gw_in 474 (by decide +kernel) (by decide +kernel)
theorem L_Fr_22 : Cond.fieldLink R_Fr 22 "PatchDesk$Frame" "place" "I" ∈ gws := gw_in 477 (by decide +kernel) (by decide +kernel)
theorem L_Fr_25 : Cond.fieldLink R_Fr 25 "PatchDesk$Frame" "repeats" "I" ∈ gws := gw_in 479 (by decide +kernel) (by decide +kernel)
theorem L_Fr_28 : Cond.fieldLink R_Fr 28 "PatchDesk$Body" "size" "I" ∈ gws := gw_in 257 (by decide +kernel) (by decide +kernel)
theorem L_Fr_33 : Cond.fieldLink R_Fr 33 "PatchDesk$Body" "kinds" "[I" ∈ gws := gw_in 253 (by decide +kernel) (by decide +kernel)
theorem L_Fr_37 : Cond.fieldLink R_Fr 37 "PatchDesk$Body" "numbers" "[I" ∈ gws := gw_in 255 (by decide +kernel) (by decide +kernel)
theorem L_Fn_7 : Cond.fieldLink R_Fn 7 "PatchDesk$Function" "signature" "I" ∈ gws := gw_in 266 (by decide +kernel) (by decide +kernel)
theorem L_Fn_16 : Cond.fieldLink R_Fn 16 "PatchDesk$Function" "first" "LPatchDesk$Body;" ∈ gws := gw_in 268 (by decide +kernel) (by decide +kernel)
theorem L_P_11 : Cond.fieldLink R_P 11 "PatchDesk$Patch" "bodies" "[LPatchDesk$Body;" ∈ gws := gw_in 93 (by decide +kernel) (by decide +kernel)
theorem L_P_17 : Cond.fieldLink R_P 17 "PatchDesk$Patch" "signatures" "[I" ∈ gws := gw_in 95 (by decide +kernel) (by decide +kernel)
theorem L_P_22 : Cond.fieldLink R_P 22 "PatchDesk$Patch" "named" "I" ∈ gws := gw_in 97 (by decide +kernel) (by decide +kernel)
theorem L_T_9 : Cond.fieldLink R_T 9 "PatchDesk$Task" "level" "I" ∈ gws := gw_in 499 (by decide +kernel) (by decide +kernel)
theorem L_T_17 : Cond.fieldLink R_T 17 "PatchDesk$Task" "frames" "[LPatchDesk$Frame;" ∈ gws := gw_in 495 (by decide +kernel) (by decide +kernel)
theorem L_T_28 : Cond.fieldLink R_T 28 "PatchDesk$Task" "depth" "I" ∈ gws := gw_in 497 (by decide +kernel) (by decide +kernel)
theorem L_T_31 : Cond.fieldLink R_T 31 "PatchDesk$Task" "outs" "I" ∈ gws := gw_in 504 (by decide +kernel) (by decide +kernel)
theorem L_T_34 : Cond.fieldLink R_T 34 "PatchDesk$Task" "sum" "I" ∈ gws := gw_in 501 (by decide +kernel) (by decide +kernel)
theorem L_T_37 : Cond.fieldLink R_T 37 "PatchDesk$Task" "latestOut" "I" ∈ gws := gw_in 506 (by decide +kernel) (by decide +kernel)
theorem L_M_7 : Cond.fieldLink R_M 7 "PatchDeskModel" "has" "[Z" ∈ gws := gw_in 628 (by decide +kernel) (by decide +kernel)
theorem L_M_13 : Cond.fieldLink R_M 13 "PatchDeskModel" "signature" "[I" ∈ gws := gw_in 629 (by decide +kernel) (by decide +kernel)
theorem L_M_17 : Cond.fieldLink R_M 17 "PatchDeskModel" "size" "[I" ∈ gws := gw_in 630 (by decide +kernel) (by decide +kernel)
theorem L_M_20 : Cond.fieldLink R_M 20 "PatchDeskModel" "kind" "[I" ∈ gws := gw_in 631 (by decide +kernel) (by decide +kernel)
theorem L_M_23 : Cond.fieldLink R_M 23 "PatchDeskModel" "number" "[I" ∈ gws := gw_in 632 (by decide +kernel) (by decide +kernel)
theorem L_M_26 : Cond.fieldLink R_M 26 "PatchDeskModel" "target" "I" ∈ gws := gw_in 635 (by decide +kernel) (by decide +kernel)
theorem L_M_30 : Cond.fieldLink R_M 30 "PatchDeskModel" "main" "[I" ∈ gws := gw_in 637 (by decide +kernel) (by decide +kernel)
theorem L_M_33 : Cond.fieldLink R_M 33 "PatchDeskModel" "levelOf" "[I" ∈ gws := gw_in 638 (by decide +kernel) (by decide +kernel)
theorem L_M_36 : Cond.fieldLink R_M 36 "PatchDeskModel" "sum" "[I" ∈ gws := gw_in 639 (by decide +kernel) (by decide +kernel)
theorem L_M_39 : Cond.fieldLink R_M 39 "PatchDeskModel" "steps" "[I" ∈ gws := gw_in 640 (by decide +kernel) (by decide +kernel)
theorem L_M_42 : Cond.fieldLink R_M 42 "PatchDeskModel" "outs" "[I" ∈ gws := gw_in 641 (by decide +kernel) (by decide +kernel)
theorem L_M_45 : Cond.fieldLink R_M 45 "PatchDeskModel" "latest" "[I" ∈ gws := gw_in 642 (by decide +kernel) (by decide +kernel)
theorem L_M_48 : Cond.fieldLink R_M 48 "PatchDeskModel" "depth" "[I" ∈ gws := gw_in 643 (by decide +kernel) (by decide +kernel)
theorem L_M_51 : Cond.fieldLink R_M 51 "PatchDeskModel" "row" "[I" ∈ gws := gw_in 644 (by decide +kernel) (by decide +kernel)
theorem L_M_54 : Cond.fieldLink R_M 54 "PatchDeskModel" "frameLevel" "[I" ∈ gws := gw_in 645 (by decide +kernel) (by decide +kernel)
theorem L_M_57 : Cond.fieldLink R_M 57 "PatchDeskModel" "at" "[I" ∈ gws := gw_in 646 (by decide +kernel) (by decide +kernel)
theorem L_M_60 : Cond.fieldLink R_M 60 "PatchDeskModel" "repeats" "[I" ∈ gws := gw_in 647 (by decide +kernel) (by decide +kernel)
theorem L_M_63 : Cond.fieldLink R_M 63 "PatchDeskModel" "thrown" "I" ∈ gws := gw_in 626 (by decide +kernel) (by decide +kernel)
theorem L_M_66 : Cond.fieldLink R_M 66 "PatchDeskModel" "tasks" "I" ∈ gws := gw_in 636 (by decide +kernel) (by decide +kernel)
theorem L_M_69 : Cond.fieldLink R_M 69 "PatchDeskModel" "top" "I" ∈ gws := gw_in 634 (by decide +kernel) (by decide +kernel)
theorem L_M_76 : Cond.fieldLink R_M 76 "PatchDeskModel" "functions" "I" ∈ gws := gw_in 627 (by decide +kernel) (by decide +kernel)
theorem L_M_83 : Cond.fieldLink R_M 83 "PatchDeskModel" "named" "I" ∈ gws := gw_in 633 (by decide +kernel) (by decide +kernel)
theorem L_ABL_7 : Cond.fieldLink R_ABL 7 "java/util/AbstractList" "modCount" "I" ∈ gws := gw_in 75 (by decide +kernel) (by decide +kernel)
theorem L_AL_9 : Cond.fieldLink R_AL 9 "java/util/ArrayList" "elementData" "[Ljava/lang/Object;" ∈ gws := gw_in 73 (by decide +kernel) (by decide +kernel)
theorem L_AL_39 : Cond.fieldLink R_AL 39 "java/util/ArrayList" "DEFAULTCAPACITY_EMPTY_ELEMENTDATA" "[Ljava/lang/Object;" ∈ gws := gw_in 71 (by decide +kernel) (by decide +kernel)
theorem L_AL_48 : Cond.fieldLink R_AL 48 "java/util/ArrayList" "size" "I" ∈ gws := gw_in 74 (by decide +kernel) (by decide +kernel)
theorem L_AL_63 : Cond.fieldLink R_AL 63 "java/util/ArrayList" "modCount" "I" ∈ gws := gw_in 76 (by decide +kernel) (by decide +kernel)
theorem C_D_7 : Cond.classLink R_D 7 "java/util/ArrayList" ∈ gws := gw_in 59 (by decide +kernel) (by decide +kernel)
theorem C_D_22 : Cond.classLink R_D 22 "PatchDesk$Patch" ∈ gws := gw_in 85 (by decide +kernel) (by decide +kernel)
theorem C_D_37 : Cond.classLink R_D 37 "java/lang/IllegalArgumentException" ∈ gws := gw_in 147 (by decide +kernel) (by decide +kernel)
theorem C_D_52 : Cond.classLink R_D 52 "java/lang/IllegalStateException" ∈ gws := gw_in 224 (by decide +kernel) (by decide +kernel)
theorem C_D_57 : Cond.classLink R_D 57 "PatchDesk$Function" ∈ gws := gw_in 240 (by decide +kernel) (by decide +kernel)
theorem C_D_119 : Cond.classLink R_D 119 "java/lang/UnsupportedOperationException" ∈ gws := gw_in 404 (by decide +kernel) (by decide +kernel)
theorem C_D_135 : Cond.classLink R_D 135 "PatchDesk$Task" ∈ gws := gw_in 429 (by decide +kernel) (by decide +kernel)
theorem C_D_180 : Cond.classLink R_D 180 "java/util/NoSuchElementException" ∈ gws := gw_in 596 (by decide +kernel) (by decide +kernel)
theorem C_Fn_13 : Cond.classLink R_Fn 13 "PatchDesk$Body" ∈ gws := gw_in 246 (by decide +kernel) (by decide +kernel)
theorem C_P_9 : Cond.classLink R_P 9 "PatchDesk$Body" ∈ gws := gw_in 91 (by decide +kernel) (by decide +kernel)
theorem C_T_15 : Cond.classLink R_T 15 "PatchDesk$Frame" ∈ gws := gw_in 465 (by decide +kernel) (by decide +kernel)
theorem C_L_8 : Cond.classLink R_L 8 "PatchDesk" ∈ gws := gw_in 51 (by decide +kernel) (by decide +kernel)
theorem C_L_13 : Cond.classLink R_L 13 "java/lang/IllegalArgumentException" ∈ gws := gw_in 138 (by decide +kernel) (by decide +kernel)
theorem C_L_15 : Cond.classLink R_L 15 "java/lang/IllegalStateException" ∈ gws := gw_in 139 (by decide +kernel) (by decide +kernel)
theorem C_L_29 : Cond.classLink R_L 29 "java/lang/UnsupportedOperationException" ∈ gws := gw_in 394 (by decide +kernel) (by decide +kernel)
theorem C_L_47 : Cond.classLink R_L 47 "java/util/NoSuchElementException" ∈ gws := gw_in 591 (by decide +kernel) (by decide +kernel)
theorem C_L_53 : Cond.classLink R_L 53 "PatchDeskModel" ∈ gws := gw_in 620 (by decide +kernel) (by decide +kernel)
theorem C_AL_7 : Cond.classLink R_AL 7 "java/lang/Object" ∈ gws := gw_in 333 (by decide +kernel) (by decide +kernel)
theorem O_D_1 : Cond.methodLink R_D 1 objectInit ∈ gws := gw_in 56 (by decide +kernel) (by decide +kernel)
theorem iM_AL_init : Cond.instanceMethod y_AL_init ∈ gws := gw_in 62 (by decide +kernel) (by decide +kernel)
theorem co_AL_init : Cond.code y_AL_init b_AL_init 1 none ∈ gws := gw_in 63 (by decide +kernel) (by decide +kernel)
theorem X_D_9 : cwdI R_D 9 y_AL_init b_AL_init 1 0 := ⟨⟨gw_in 61 (by decide +kernel) (by decide +kernel), iM_AL_init, Z_AL, co_AL_init⟩, ⟨by decide, by decide, by decide +kernel⟩, rfl⟩
theorem iM_P_init : Cond.instanceMethod y_P_init ∈ gws := gw_in 88 (by decide +kernel) (by decide +kernel)
theorem co_P_init : Cond.code y_P_init b_P_init 1 none ∈ gws := gw_in 89 (by decide +kernel) (by decide +kernel)
theorem X_D_24 : cwdI R_D 24 y_P_init b_P_init 1 0 := ⟨⟨gw_in 87 (by decide +kernel) (by decide +kernel), iM_P_init, Z_P, co_P_init⟩, ⟨by decide, by decide, by decide +kernel⟩, rfl⟩
theorem sM_D_isSignature : Cond.static y_D_isSignature ∈ gws := gw_in 145 (by decide +kernel) (by decide +kernel)
theorem co_D_isSignature : Cond.code y_D_isSignature b_D_isSignature 1 (some .boolean) ∈ gws := gw_in 146 (by decide +kernel) (by decide +kernel)
theorem X_D_33 : cwdS R_D 33 y_D_isSignature b_D_isSignature 1 (some .boolean) 1 := ⟨⟨gw_in 144 (by decide +kernel) (by decide +kernel), sM_D_isSignature, Z_D, co_D_isSignature⟩, by decide, by decide, by decide +kernel⟩
theorem iM_AL_size : Cond.instanceMethod y_AL_size ∈ gws := gw_in 128 (by decide +kernel) (by decide +kernel)
theorem se_AL_size : Cond.selects R_AL y_AL_size y_AL_size ∈ gws := gw_in 129 (by decide +kernel) (by decide +kernel)
theorem co_AL_size : Cond.code y_AL_size b_AL_size 1 (some .int) ∈ gws := gw_in 130 (by decide +kernel) (by decide +kernel)
theorem X_D_44 : cwdV R_D 44 y_AL_size b_AL_size 1 (some .int) 0 := ⟨⟨gw_in 127 (by decide +kernel) (by decide +kernel), iM_AL_size, se_AL_size, Z_AL, co_AL_size⟩, by decide, by decide, by decide +kernel⟩
theorem iM_D_isInUse : Cond.instanceMethod y_D_isInUse ∈ gws := gw_in 218 (by decide +kernel) (by decide +kernel)
theorem se_D_isInUse : Cond.selects R_D y_D_isInUse y_D_isInUse ∈ gws := gw_in 1 (by decide +kernel) (by decide +kernel)
theorem co_D_isInUse : Cond.code y_D_isInUse b_D_isInUse 1 (some .boolean) ∈ gws := gw_in 219 (by decide +kernel) (by decide +kernel)
theorem X_D_48 : cwdV R_D 48 y_D_isInUse b_D_isInUse 1 (some .boolean) 0 := ⟨⟨gw_in 216 (by decide +kernel) (by decide +kernel), iM_D_isInUse, se_D_isInUse, Z_D, co_D_isInUse⟩, by decide, by decide, by decide +kernel⟩
theorem iM_Fn_init : Cond.instanceMethod y_Fn_init ∈ gws := gw_in 243 (by decide +kernel) (by decide +kernel)
theorem co_Fn_init : Cond.code y_Fn_init b_Fn_init 2 none ∈ gws := gw_in 244 (by decide +kernel) (by decide +kernel)
theorem X_D_59 : cwdI R_D 59 y_Fn_init b_Fn_init 2 1 := ⟨⟨gw_in 242 (by decide +kernel) (by decide +kernel), iM_Fn_init, Z_Fn, co_Fn_init⟩, ⟨by decide, by decide, by decide +kernel⟩, rfl⟩
theorem iM_AL_add0 : Cond.instanceMethod y_AL_add0 ∈ gws := gw_in 276 (by decide +kernel) (by decide +kernel)
theorem se_AL_add0 : Cond.selects R_AL y_AL_add0 y_AL_add0 ∈ gws := gw_in 277 (by decide +kernel) (by decide +kernel)
theorem co_AL_add0 : Cond.code y_AL_add0 b_AL_add0 2 (some .boolean) ∈ gws := gw_in 278 (by decide +kernel) (by decide +kernel)
theorem X_D_62 : cwdV R_D 62 y_AL_add0 b_AL_add0 2 (some .boolean) 1 := ⟨⟨gw_in 275 (by decide +kernel) (by decide +kernel), iM_AL_add0, se_AL_add0, Z_AL, co_AL_add0⟩, by decide, by decide, by decide +kernel⟩
theorem iM_D_isFunction : Cond.instanceMethod y_D_isFunction ∈ gws := gw_in 343 (by decide +kernel) (by decide +kernel)
theorem se_D_isFunction : Cond.selects R_D y_D_isFunction y_D_isFunction ∈ gws := gw_in 5 (by decide +kernel) (by decide +kernel)
theorem co_D_isFunction : Cond.code y_D_isFunction b_D_isFunction 2 (some .boolean) ∈ gws := gw_in 344 (by decide +kernel) (by decide +kernel)
theorem X_D_66 : cwdV R_D 66 y_D_isFunction b_D_isFunction 2 (some .boolean) 1 := ⟨⟨gw_in 341 (by decide +kernel) (by decide +kernel), iM_D_isFunction, se_D_isFunction, Z_D, co_D_isFunction⟩, by decide, by decide, by decide +kernel⟩
theorem iM_P_hasNamed : Cond.instanceMethod y_P_hasNamed ∈ gws := gw_in 346 (by decide +kernel) (by decide +kernel)
theorem se_P_hasNamed : Cond.selects R_P y_P_hasNamed y_P_hasNamed ∈ gws := gw_in 347 (by decide +kernel) (by decide +kernel)
theorem co_P_hasNamed : Cond.code y_P_hasNamed b_P_hasNamed 2 (some .boolean) ∈ gws := gw_in 348 (by decide +kernel) (by decide +kernel)
theorem X_D_69 : cwdV R_D 69 y_P_hasNamed b_P_hasNamed 2 (some .boolean) 1 := ⟨⟨gw_in 345 (by decide +kernel) (by decide +kernel), iM_P_hasNamed, se_P_hasNamed, Z_P, co_P_hasNamed⟩, by decide, by decide, by decide +kernel⟩
theorem iM_AL_get : Cond.instanceMethod y_AL_get ∈ gws := gw_in 351 (by decide +kernel) (by decide +kernel)
theorem se_AL_get : Cond.selects R_AL y_AL_get y_AL_get ∈ gws := gw_in 352 (by decide +kernel) (by decide +kernel)
theorem co_AL_get : Cond.code y_AL_get b_AL_get 2 (some (.object "java/lang/Object")) ∈ gws := gw_in 353 (by decide +kernel) (by decide +kernel)
theorem X_D_78 : cwdV R_D 78 y_AL_get b_AL_get 2 (some (.object "java/lang/Object")) 1 := ⟨⟨gw_in 350 (by decide +kernel) (by decide +kernel), iM_AL_get, se_AL_get, Z_AL, co_AL_get⟩, by decide, by decide, by decide +kernel⟩
theorem iM_D_isOperation : Cond.instanceMethod y_D_isOperation ∈ gws := gw_in 366 (by decide +kernel) (by decide +kernel)
theorem se_D_isOperation : Cond.selects R_D y_D_isOperation y_D_isOperation ∈ gws := gw_in 6 (by decide +kernel) (by decide +kernel)
theorem co_D_isOperation : Cond.code y_D_isOperation b_D_isOperation 4 (some .boolean) ∈ gws := gw_in 367 (by decide +kernel) (by decide +kernel)
theorem X_D_90 : cwdV R_D 90 y_D_isOperation b_D_isOperation 4 (some .boolean) 3 := ⟨⟨gw_in 364 (by decide +kernel) (by decide +kernel), iM_D_isOperation, se_D_isOperation, Z_D, co_D_isOperation⟩, by decide, by decide, by decide +kernel⟩
theorem iM_B_isFull : Cond.instanceMethod y_B_isFull ∈ gws := gw_in 370 (by decide +kernel) (by decide +kernel)
theorem se_B_isFull : Cond.selects R_B y_B_isFull y_B_isFull ∈ gws := gw_in 371 (by decide +kernel) (by decide +kernel)
theorem co_B_isFull : Cond.code y_B_isFull b_B_isFull 1 (some .boolean) ∈ gws := gw_in 372 (by decide +kernel) (by decide +kernel)
theorem X_D_96 : cwdV R_D 96 y_B_isFull b_B_isFull 1 (some .boolean) 0 := ⟨⟨gw_in 369 (by decide +kernel) (by decide +kernel), iM_B_isFull, se_B_isFull, Z_B, co_B_isFull⟩, by decide, by decide, by decide +kernel⟩
theorem iM_B_append : Cond.instanceMethod y_B_append ∈ gws := gw_in 375 (by decide +kernel) (by decide +kernel)
theorem se_B_append : Cond.selects R_B y_B_append y_B_append ∈ gws := gw_in 376 (by decide +kernel) (by decide +kernel)
theorem co_B_append : Cond.code y_B_append b_B_append 3 none ∈ gws := gw_in 377 (by decide +kernel) (by decide +kernel)
theorem X_D_101 : cwdV R_D 101 y_B_append b_B_append 3 none 2 := ⟨⟨gw_in 374 (by decide +kernel) (by decide +kernel), iM_B_append, se_B_append, Z_B, co_B_append⟩, by decide, by decide, by decide +kernel⟩
theorem iM_P_include : Cond.instanceMethod y_P_include ∈ gws := gw_in 387 (by decide +kernel) (by decide +kernel)
theorem se_P_include : Cond.selects R_P y_P_include y_P_include ∈ gws := gw_in 388 (by decide +kernel) (by decide +kernel)
theorem co_P_include : Cond.code y_P_include b_P_include 3 none ∈ gws := gw_in 389 (by decide +kernel) (by decide +kernel)
theorem X_D_107 : cwdV R_D 107 y_P_include b_P_include 3 none 2 := ⟨⟨gw_in 386 (by decide +kernel) (by decide +kernel), iM_P_include, se_P_include, Z_P, co_P_include⟩, by decide, by decide, by decide +kernel⟩
theorem iM_D_keepsSignatures : Cond.instanceMethod y_D_keepsSignatures ∈ gws := gw_in 402 (by decide +kernel) (by decide +kernel)
theorem se_D_keepsSignatures : Cond.selects R_D y_D_keepsSignatures y_D_keepsSignatures ∈ gws := gw_in 7 (by decide +kernel) (by decide +kernel)
theorem co_D_keepsSignatures : Cond.code y_D_keepsSignatures b_D_keepsSignatures 3 (some .boolean) ∈ gws := gw_in 403 (by decide +kernel) (by decide +kernel)
theorem X_D_115 : cwdV R_D 115 y_D_keepsSignatures b_D_keepsSignatures 3 (some .boolean) 1 := ⟨⟨gw_in 400 (by decide +kernel) (by decide +kernel), iM_D_keepsSignatures, se_D_keepsSignatures, Z_D, co_D_keepsSignatures⟩, by decide, by decide, by decide +kernel⟩
theorem iM_D_headFor : Cond.instanceMethod y_D_headFor ∈ gws := gw_in 423 (by decide +kernel) (by decide +kernel)
theorem se_D_headFor : Cond.selects R_D y_D_headFor y_D_headFor ∈ gws := gw_in 8 (by decide +kernel) (by decide +kernel)
theorem co_D_headFor : Cond.code y_D_headFor b_D_headFor 2 none ∈ gws := gw_in 424 (by decide +kernel) (by decide +kernel)
theorem X_D_126 : cwdV R_D 126 y_D_headFor b_D_headFor 2 none 1 := ⟨⟨gw_in 421 (by decide +kernel) (by decide +kernel), iM_D_headFor, se_D_headFor, Z_D, co_D_headFor⟩, by decide, by decide, by decide +kernel⟩
theorem iM_D_bodyAt : Cond.instanceMethod y_D_bodyAt ∈ gws := gw_in 459 (by decide +kernel) (by decide +kernel)
theorem se_D_bodyAt : Cond.selects R_D y_D_bodyAt y_D_bodyAt ∈ gws := gw_in 11 (by decide +kernel) (by decide +kernel)
theorem co_D_bodyAt : Cond.code y_D_bodyAt b_D_bodyAt 6 (some (.object "PatchDesk$Body")) ∈ gws := gw_in 460 (by decide +kernel) (by decide +kernel)
theorem X_D_137 : cwdV R_D 137 y_D_bodyAt b_D_bodyAt 6 (some (.object "PatchDesk$Body")) 2 := ⟨⟨gw_in 457 (by decide +kernel) (by decide +kernel), iM_D_bodyAt, se_D_bodyAt, Z_D, co_D_bodyAt⟩, by decide, by decide, by decide +kernel⟩
theorem iM_T_init : Cond.instanceMethod y_T_init ∈ gws := gw_in 462 (by decide +kernel) (by decide +kernel)
theorem co_T_init : Cond.code y_T_init b_T_init 5 none ∈ gws := gw_in 463 (by decide +kernel) (by decide +kernel)
theorem X_D_141 : cwdI R_D 141 y_T_init b_T_init 5 3 := ⟨⟨gw_in 461 (by decide +kernel) (by decide +kernel), iM_T_init, Z_T, co_T_init⟩, ⟨by decide, by decide, by decide +kernel⟩, rfl⟩
theorem iM_D_isTask : Cond.instanceMethod y_D_isTask ∈ gws := gw_in 532 (by decide +kernel) (by decide +kernel)
theorem se_D_isTask : Cond.selects R_D y_D_isTask y_D_isTask ∈ gws := gw_in 12 (by decide +kernel) (by decide +kernel)
theorem co_D_isTask : Cond.code y_D_isTask b_D_isTask 2 (some .boolean) ∈ gws := gw_in 533 (by decide +kernel) (by decide +kernel)
theorem X_D_144 : cwdV R_D 144 y_D_isTask b_D_isTask 2 (some .boolean) 1 := ⟨⟨gw_in 530 (by decide +kernel) (by decide +kernel), iM_D_isTask, se_D_isTask, Z_D, co_D_isTask⟩, by decide, by decide, by decide +kernel⟩
theorem iM_D_canGoOver : Cond.instanceMethod y_D_canGoOver ∈ gws := gw_in 537 (by decide +kernel) (by decide +kernel)
theorem se_D_canGoOver : Cond.selects R_D y_D_canGoOver y_D_canGoOver ∈ gws := gw_in 13 (by decide +kernel) (by decide +kernel)
theorem co_D_canGoOver : Cond.code y_D_canGoOver b_D_canGoOver 3 (some .boolean) ∈ gws := gw_in 538 (by decide +kernel) (by decide +kernel)
theorem X_D_149 : cwdV R_D 149 y_D_canGoOver b_D_canGoOver 3 (some .boolean) 1 := ⟨⟨gw_in 535 (by decide +kernel) (by decide +kernel), iM_D_canGoOver, se_D_canGoOver, Z_D, co_D_canGoOver⟩, by decide, by decide, by decide +kernel⟩
theorem iM_D_endTransitionWhenAllAreOver : Cond.instanceMethod y_D_endTransitionWhenAllAreOver ∈ gws := gw_in 427 (by decide +kernel) (by decide +kernel)
theorem se_D_endTransitionWhenAllAreOver : Cond.selects R_D y_D_endTransitionWhenAllAreOver y_D_endTransitionWhenAllAreOver ∈ gws := gw_in 9 (by decide +kernel) (by decide +kernel)
theorem co_D_endTransitionWhenAllAreOver : Cond.code y_D_endTransitionWhenAllAreOver b_D_endTransitionWhenAllAreOver 2 none ∈ gws := gw_in 428 (by decide +kernel) (by decide +kernel)
theorem X_D_156 : cwdV R_D 156 y_D_endTransitionWhenAllAreOver b_D_endTransitionWhenAllAreOver 2 none 0 := ⟨⟨gw_in 425 (by decide +kernel) (by decide +kernel), iM_D_endTransitionWhenAllAreOver, se_D_endTransitionWhenAllAreOver, Z_D, co_D_endTransitionWhenAllAreOver⟩, by decide, by decide, by decide +kernel⟩
theorem iM_D_stepOnce : Cond.instanceMethod y_D_stepOnce ∈ gws := gw_in 557 (by decide +kernel) (by decide +kernel)
theorem se_D_stepOnce : Cond.selects R_D y_D_stepOnce y_D_stepOnce ∈ gws := gw_in 16 (by decide +kernel) (by decide +kernel)
theorem co_D_stepOnce : Cond.code y_D_stepOnce b_D_stepOnce 5 none ∈ gws := gw_in 558 (by decide +kernel) (by decide +kernel)
theorem X_D_159 : cwdV R_D 159 y_D_stepOnce b_D_stepOnce 5 none 1 := ⟨⟨gw_in 555 (by decide +kernel) (by decide +kernel), iM_D_stepOnce, se_D_stepOnce, Z_D, co_D_stepOnce⟩, by decide, by decide, by decide +kernel⟩
theorem iM_AL_isEmpty : Cond.instanceMethod y_AL_isEmpty ∈ gws := gw_in 221 (by decide +kernel) (by decide +kernel)
theorem se_AL_isEmpty : Cond.selects R_AL y_AL_isEmpty y_AL_isEmpty ∈ gws := gw_in 222 (by decide +kernel) (by decide +kernel)
theorem co_AL_isEmpty : Cond.code y_AL_isEmpty b_AL_isEmpty 1 (some .boolean) ∈ gws := gw_in 223 (by decide +kernel) (by decide +kernel)
theorem X_D_200 : cwdV R_D 200 y_AL_isEmpty b_AL_isEmpty 1 (some .boolean) 0 := ⟨⟨gw_in 220 (by decide +kernel) (by decide +kernel), iM_AL_isEmpty, se_AL_isEmpty, Z_AL, co_AL_isEmpty⟩, by decide, by decide, by decide +kernel⟩
theorem iM_AL_remove : Cond.instanceMethod y_AL_remove ∈ gws := gw_in 431 (by decide +kernel) (by decide +kernel)
theorem se_AL_remove : Cond.selects R_AL y_AL_remove y_AL_remove ∈ gws := gw_in 432 (by decide +kernel) (by decide +kernel)
theorem co_AL_remove : Cond.code y_AL_remove b_AL_remove 4 (some (.object "java/lang/Object")) ∈ gws := gw_in 433 (by decide +kernel) (by decide +kernel)
theorem X_D_210 : cwdV R_D 210 y_AL_remove b_AL_remove 4 (some (.object "java/lang/Object")) 1 := ⟨⟨gw_in 430 (by decide +kernel) (by decide +kernel), iM_AL_remove, se_AL_remove, Z_AL, co_AL_remove⟩, by decide, by decide, by decide +kernel⟩
theorem iM_T_top : Cond.instanceMethod y_T_top ∈ gws := gw_in 540 (by decide +kernel) (by decide +kernel)
theorem se_T_top : Cond.selects R_T y_T_top y_T_top ∈ gws := gw_in 541 (by decide +kernel) (by decide +kernel)
theorem co_T_top : Cond.code y_T_top b_T_top 1 (some (.object "PatchDesk$Frame")) ∈ gws := gw_in 542 (by decide +kernel) (by decide +kernel)
theorem X_D_213 : cwdV R_D 213 y_T_top b_T_top 1 (some (.object "PatchDesk$Frame")) 0 := ⟨⟨gw_in 539 (by decide +kernel) (by decide +kernel), iM_T_top, se_T_top, Z_T, co_T_top⟩, by decide, by decide, by decide +kernel⟩
theorem iM_Fr_nextKind : Cond.instanceMethod y_Fr_nextKind ∈ gws := gw_in 544 (by decide +kernel) (by decide +kernel)
theorem se_Fr_nextKind : Cond.selects R_Fr y_Fr_nextKind y_Fr_nextKind ∈ gws := gw_in 545 (by decide +kernel) (by decide +kernel)
theorem co_Fr_nextKind : Cond.code y_Fr_nextKind b_Fr_nextKind 1 (some .int) ∈ gws := gw_in 546 (by decide +kernel) (by decide +kernel)
theorem X_D_217 : cwdV R_D 217 y_Fr_nextKind b_Fr_nextKind 1 (some .int) 0 := ⟨⟨gw_in 543 (by decide +kernel) (by decide +kernel), iM_Fr_nextKind, se_Fr_nextKind, Z_Fr, co_Fr_nextKind⟩, by decide, by decide, by decide +kernel⟩
theorem iM_D_hasPatchedFrame : Cond.instanceMethod y_D_hasPatchedFrame ∈ gws := gw_in 549 (by decide +kernel) (by decide +kernel)
theorem se_D_hasPatchedFrame : Cond.selects R_D y_D_hasPatchedFrame y_D_hasPatchedFrame ∈ gws := gw_in 14 (by decide +kernel) (by decide +kernel)
theorem co_D_hasPatchedFrame : Cond.code y_D_hasPatchedFrame b_D_hasPatchedFrame 3 (some .boolean) ∈ gws := gw_in 550 (by decide +kernel) (by decide +kernel)
theorem X_D_220 : cwdV R_D 220 y_D_hasPatchedFrame b_D_hasPatchedFrame 3 (some .boolean) 1 := ⟨⟨gw_in 547 (by decide +kernel) (by decide +kernel), iM_D_hasPatchedFrame, se_D_hasPatchedFrame, Z_D, co_D_hasPatchedFrame⟩, by decide, by decide, by decide +kernel⟩
theorem iM_D_isInLatestPatch : Cond.instanceMethod y_D_isInLatestPatch ∈ gws := gw_in 553 (by decide +kernel) (by decide +kernel)
theorem se_D_isInLatestPatch : Cond.selects R_D y_D_isInLatestPatch y_D_isInLatestPatch ∈ gws := gw_in 15 (by decide +kernel) (by decide +kernel)
theorem co_D_isInLatestPatch : Cond.code y_D_isInLatestPatch b_D_isInLatestPatch 2 (some .boolean) ∈ gws := gw_in 554 (by decide +kernel) (by decide +kernel)
theorem X_D_223 : cwdV R_D 223 y_D_isInLatestPatch b_D_isInLatestPatch 2 (some .boolean) 1 := ⟨⟨gw_in 551 (by decide +kernel) (by decide +kernel), iM_D_isInLatestPatch, se_D_isInLatestPatch, Z_D, co_D_isInLatestPatch⟩, by decide, by decide, by decide +kernel⟩
theorem iM_D_leaveTopFrame : Cond.instanceMethod y_D_leaveTopFrame ∈ gws := gw_in 561 (by decide +kernel) (by decide +kernel)
theorem se_D_leaveTopFrame : Cond.selects R_D y_D_leaveTopFrame y_D_leaveTopFrame ∈ gws := gw_in 17 (by decide +kernel) (by decide +kernel)
theorem co_D_leaveTopFrame : Cond.code y_D_leaveTopFrame b_D_leaveTopFrame 3 none ∈ gws := gw_in 562 (by decide +kernel) (by decide +kernel)
theorem X_D_226 : cwdV R_D 226 y_D_leaveTopFrame b_D_leaveTopFrame 3 none 1 := ⟨⟨gw_in 559 (by decide +kernel) (by decide +kernel), iM_D_leaveTopFrame, se_D_leaveTopFrame, Z_D, co_D_leaveTopFrame⟩, by decide, by decide, by decide +kernel⟩
theorem iM_Fr_nextNumber : Cond.instanceMethod y_Fr_nextNumber ∈ gws := gw_in 565 (by decide +kernel) (by decide +kernel)
theorem se_Fr_nextNumber : Cond.selects R_Fr y_Fr_nextNumber y_Fr_nextNumber ∈ gws := gw_in 566 (by decide +kernel) (by decide +kernel)
theorem co_Fr_nextNumber : Cond.code y_Fr_nextNumber b_Fr_nextNumber 1 (some .int) ∈ gws := gw_in 567 (by decide +kernel) (by decide +kernel)
theorem X_D_229 : cwdV R_D 229 y_Fr_nextNumber b_Fr_nextNumber 1 (some .int) 0 := ⟨⟨gw_in 564 (by decide +kernel) (by decide +kernel), iM_Fr_nextNumber, se_Fr_nextNumber, Z_Fr, co_Fr_nextNumber⟩, by decide, by decide, by decide +kernel⟩
theorem iM_D_enter : Cond.instanceMethod y_D_enter ∈ gws := gw_in 570 (by decide +kernel) (by decide +kernel)
theorem se_D_enter : Cond.selects R_D y_D_enter y_D_enter ∈ gws := gw_in 18 (by decide +kernel) (by decide +kernel)
theorem co_D_enter : Cond.code y_D_enter b_D_enter 3 none ∈ gws := gw_in 571 (by decide +kernel) (by decide +kernel)
theorem X_D_232 : cwdV R_D 232 y_D_enter b_D_enter 3 none 2 := ⟨⟨gw_in 568 (by decide +kernel) (by decide +kernel), iM_D_enter, se_D_enter, Z_D, co_D_enter⟩, by decide, by decide, by decide +kernel⟩
theorem iM_Fr_repeatFrom : Cond.instanceMethod y_Fr_repeatFrom ∈ gws := gw_in 573 (by decide +kernel) (by decide +kernel)
theorem se_Fr_repeatFrom : Cond.selects R_Fr y_Fr_repeatFrom y_Fr_repeatFrom ∈ gws := gw_in 574 (by decide +kernel) (by decide +kernel)
theorem co_Fr_repeatFrom : Cond.code y_Fr_repeatFrom b_Fr_repeatFrom 2 none ∈ gws := gw_in 575 (by decide +kernel) (by decide +kernel)
theorem X_D_236 : cwdV R_D 236 y_Fr_repeatFrom b_Fr_repeatFrom 2 none 1 := ⟨⟨gw_in 572 (by decide +kernel) (by decide +kernel), iM_Fr_repeatFrom, se_Fr_repeatFrom, Z_Fr, co_Fr_repeatFrom⟩, by decide, by decide, by decide +kernel⟩
theorem iM_T_putOut : Cond.instanceMethod y_T_putOut ∈ gws := gw_in 577 (by decide +kernel) (by decide +kernel)
theorem se_T_putOut : Cond.selects R_T y_T_putOut y_T_putOut ∈ gws := gw_in 578 (by decide +kernel) (by decide +kernel)
theorem co_T_putOut : Cond.code y_T_putOut b_T_putOut 1 none ∈ gws := gw_in 579 (by decide +kernel) (by decide +kernel)
theorem X_D_239 : cwdV R_D 239 y_T_putOut b_T_putOut 1 none 0 := ⟨⟨gw_in 576 (by decide +kernel) (by decide +kernel), iM_T_putOut, se_T_putOut, Z_T, co_T_putOut⟩, by decide, by decide, by decide +kernel⟩
theorem iM_Fr_begin : Cond.instanceMethod y_Fr_begin ∈ gws := gw_in 492 (by decide +kernel) (by decide +kernel)
theorem se_Fr_begin : Cond.selects R_Fr y_Fr_begin y_Fr_begin ∈ gws := gw_in 493 (by decide +kernel) (by decide +kernel)
theorem co_Fr_begin : Cond.code y_Fr_begin b_Fr_begin 4 none ∈ gws := gw_in 494 (by decide +kernel) (by decide +kernel)
theorem X_D_242 : cwdV R_D 242 y_Fr_begin b_Fr_begin 4 none 3 := ⟨⟨gw_in 563 (by decide +kernel) (by decide +kernel), iM_Fr_begin, se_Fr_begin, Z_Fr, co_Fr_begin⟩, by decide, by decide, by decide +kernel⟩
theorem O_B_3 : Cond.methodLink R_B 3 objectInit ∈ gws := gw_in 251 (by decide +kernel) (by decide +kernel)
theorem O_Fr_3 : Cond.methodLink R_Fr 3 objectInit ∈ gws := gw_in 471 (by decide +kernel) (by decide +kernel)
theorem O_Fn_1 : Cond.methodLink R_Fn 1 objectInit ∈ gws := gw_in 245 (by decide +kernel) (by decide +kernel)
theorem iM_B_init : Cond.instanceMethod y_B_init ∈ gws := gw_in 249 (by decide +kernel) (by decide +kernel)
theorem co_B_init : Cond.code y_B_init b_B_init 1 none ∈ gws := gw_in 250 (by decide +kernel) (by decide +kernel)
theorem X_Fn_15 : cwdI R_Fn 15 y_B_init b_B_init 1 0 := ⟨⟨gw_in 248 (by decide +kernel) (by decide +kernel), iM_B_init, Z_B, co_B_init⟩, ⟨by decide, by decide, by decide +kernel⟩, rfl⟩
theorem O_P_3 : Cond.methodLink R_P 3 objectInit ∈ gws := gw_in 90 (by decide +kernel) (by decide +kernel)
theorem X_P_21 : cwdI R_P 21 y_B_init b_B_init 1 0 := ⟨⟨gw_in 390 (by decide +kernel) (by decide +kernel), iM_B_init, Z_B, co_B_init⟩, ⟨by decide, by decide, by decide +kernel⟩, rfl⟩
theorem O_T_3 : Cond.methodLink R_T 3 objectInit ∈ gws := gw_in 464 (by decide +kernel) (by decide +kernel)
theorem iM_Fr_init : Cond.instanceMethod y_Fr_init ∈ gws := gw_in 469 (by decide +kernel) (by decide +kernel)
theorem co_Fr_init : Cond.code y_Fr_init b_Fr_init 2 none ∈ gws := gw_in 470 (by decide +kernel) (by decide +kernel)
theorem X_T_21 : cwdI R_T 21 y_Fr_init b_Fr_init 2 1 := ⟨⟨gw_in 468 (by decide +kernel) (by decide +kernel), iM_Fr_init, Z_Fr, co_Fr_init⟩, ⟨by decide, by decide, by decide +kernel⟩, rfl⟩
theorem X_T_24 : cwdV R_T 24 y_Fr_begin b_Fr_begin 4 none 3 := ⟨⟨gw_in 491 (by decide +kernel) (by decide +kernel), iM_Fr_begin, se_Fr_begin, Z_Fr, co_Fr_begin⟩, by decide, by decide, by decide +kernel⟩
theorem iM_D_function : Cond.instanceMethod y_D_function ∈ gws := gw_in 141 (by decide +kernel) (by decide +kernel)
theorem se_D_function : Cond.selects R_D y_D_function y_D_function ∈ gws := gw_in 142 (by decide +kernel) (by decide +kernel)
theorem co_D_function : Cond.code y_D_function b_D_function 2 (some .int) ∈ gws := gw_in 143 (by decide +kernel) (by decide +kernel)
theorem X_L_7 : cwdV R_L 7 y_D_function b_D_function 2 (some .int) 1 := ⟨⟨gw_in 140 (by decide +kernel) (by decide +kernel), iM_D_function, se_D_function, Z_D, co_D_function⟩, by decide, by decide, by decide +kernel⟩
theorem iM_D_operation : Cond.instanceMethod y_D_operation ∈ gws := gw_in 338 (by decide +kernel) (by decide +kernel)
theorem se_D_operation : Cond.selects R_D y_D_operation y_D_operation ∈ gws := gw_in 339 (by decide +kernel) (by decide +kernel)
theorem co_D_operation : Cond.code y_D_operation b_D_operation 6 (some .int) ∈ gws := gw_in 340 (by decide +kernel) (by decide +kernel)
theorem X_L_17 : cwdV R_L 17 y_D_operation b_D_operation 6 (some .int) 4 := ⟨⟨gw_in 337 (by decide +kernel) (by decide +kernel), iM_D_operation, se_D_operation, Z_D, co_D_operation⟩, by decide, by decide, by decide +kernel⟩
theorem iM_D_name : Cond.instanceMethod y_D_name ∈ gws := gw_in 382 (by decide +kernel) (by decide +kernel)
theorem se_D_name : Cond.selects R_D y_D_name y_D_name ∈ gws := gw_in 383 (by decide +kernel) (by decide +kernel)
theorem co_D_name : Cond.code y_D_name b_D_name 3 (some .int) ∈ gws := gw_in 384 (by decide +kernel) (by decide +kernel)
theorem X_L_21 : cwdV R_L 21 y_D_name b_D_name 3 (some .int) 2 := ⟨⟨gw_in 381 (by decide +kernel) (by decide +kernel), iM_D_name, se_D_name, Z_D, co_D_name⟩, by decide, by decide, by decide +kernel⟩
theorem iM_D_apply : Cond.instanceMethod y_D_apply ∈ gws := gw_in 396 (by decide +kernel) (by decide +kernel)
theorem se_D_apply : Cond.selects R_D y_D_apply y_D_apply ∈ gws := gw_in 397 (by decide +kernel) (by decide +kernel)
theorem co_D_apply : Cond.code y_D_apply b_D_apply 3 (some .int) ∈ gws := gw_in 398 (by decide +kernel) (by decide +kernel)
theorem X_L_25 : cwdV R_L 25 y_D_apply b_D_apply 3 (some .int) 0 := ⟨⟨gw_in 395 (by decide +kernel) (by decide +kernel), iM_D_apply, se_D_apply, Z_D, co_D_apply⟩, by decide, by decide, by decide +kernel⟩
theorem iM_D_turn : Cond.instanceMethod y_D_turn ∈ gws := gw_in 443 (by decide +kernel) (by decide +kernel)
theorem se_D_turn : Cond.selects R_D y_D_turn y_D_turn ∈ gws := gw_in 444 (by decide +kernel) (by decide +kernel)
theorem co_D_turn : Cond.code y_D_turn b_D_turn 4 (some .int) ∈ gws := gw_in 445 (by decide +kernel) (by decide +kernel)
theorem X_L_31 : cwdV R_L 31 y_D_turn b_D_turn 4 (some .int) 0 := ⟨⟨gw_in 442 (by decide +kernel) (by decide +kernel), iM_D_turn, se_D_turn, Z_D, co_D_turn⟩, by decide, by decide, by decide +kernel⟩
theorem iM_D_task : Cond.instanceMethod y_D_task ∈ gws := gw_in 451 (by decide +kernel) (by decide +kernel)
theorem se_D_task : Cond.selects R_D y_D_task y_D_task ∈ gws := gw_in 452 (by decide +kernel) (by decide +kernel)
theorem co_D_task : Cond.code y_D_task b_D_task 3 (some .int) ∈ gws := gw_in 453 (by decide +kernel) (by decide +kernel)
theorem X_L_34 : cwdV R_L 34 y_D_task b_D_task 3 (some .int) 1 := ⟨⟨gw_in 450 (by decide +kernel) (by decide +kernel), iM_D_task, se_D_task, Z_D, co_D_task⟩, by decide, by decide, by decide +kernel⟩
theorem iM_D_step : Cond.instanceMethod y_D_step ∈ gws := gw_in 527 (by decide +kernel) (by decide +kernel)
theorem se_D_step : Cond.selects R_D y_D_step y_D_step ∈ gws := gw_in 528 (by decide +kernel) (by decide +kernel)
theorem co_D_step : Cond.code y_D_step b_D_step 6 (some .int) ∈ gws := gw_in 529 (by decide +kernel) (by decide +kernel)
theorem X_L_37 : cwdV R_L 37 y_D_step b_D_step 6 (some .int) 2 := ⟨⟨gw_in 526 (by decide +kernel) (by decide +kernel), iM_D_step, se_D_step, Z_D, co_D_step⟩, by decide, by decide, by decide +kernel⟩
theorem iM_D_look : Cond.instanceMethod y_D_look ∈ gws := gw_in 584 (by decide +kernel) (by decide +kernel)
theorem se_D_look : Cond.selects R_D y_D_look y_D_look ∈ gws := gw_in 585 (by decide +kernel) (by decide +kernel)
theorem co_D_look : Cond.code y_D_look b_D_look 4 (some .int) ∈ gws := gw_in 586 (by decide +kernel) (by decide +kernel)
theorem X_L_40 : cwdV R_L 40 y_D_look b_D_look 4 (some .int) 2 := ⟨⟨gw_in 583 (by decide +kernel) (by decide +kernel), iM_D_look, se_D_look, Z_D, co_D_look⟩, by decide, by decide, by decide +kernel⟩
theorem iM_D_frame : Cond.instanceMethod y_D_frame ∈ gws := gw_in 593 (by decide +kernel) (by decide +kernel)
theorem se_D_frame : Cond.selects R_D y_D_frame y_D_frame ∈ gws := gw_in 594 (by decide +kernel) (by decide +kernel)
theorem co_D_frame : Cond.code y_D_frame b_D_frame 6 (some .int) ∈ gws := gw_in 595 (by decide +kernel) (by decide +kernel)
theorem X_L_43 : cwdV R_L 43 y_D_frame b_D_frame 6 (some .int) 3 := ⟨⟨gw_in 592 (by decide +kernel) (by decide +kernel), iM_D_frame, se_D_frame, Z_D, co_D_frame⟩, by decide, by decide, by decide +kernel⟩
theorem iM_D_body : Cond.instanceMethod y_D_body ∈ gws := gw_in 616 (by decide +kernel) (by decide +kernel)
theorem se_D_body : Cond.selects R_D y_D_body y_D_body ∈ gws := gw_in 617 (by decide +kernel) (by decide +kernel)
theorem co_D_body : Cond.code y_D_body b_D_body 3 (some .int) ∈ gws := gw_in 618 (by decide +kernel) (by decide +kernel)
theorem X_L_49 : cwdV R_L 49 y_D_body b_D_body 3 (some .int) 2 := ⟨⟨gw_in 615 (by decide +kernel) (by decide +kernel), iM_D_body, se_D_body, Z_D, co_D_body⟩, by decide, by decide, by decide +kernel⟩
theorem iM_D_init : Cond.instanceMethod y_D_init ∈ gws := gw_in 54 (by decide +kernel) (by decide +kernel)
theorem co_D_init : Cond.code y_D_init b_D_init 1 none ∈ gws := gw_in 55 (by decide +kernel) (by decide +kernel)
theorem X_L_52 : cwdI R_L 52 y_D_init b_D_init 1 0 := ⟨⟨gw_in 53 (by decide +kernel) (by decide +kernel), iM_D_init, Z_D, co_D_init⟩, ⟨by decide, by decide, by decide +kernel⟩, rfl⟩
theorem iM_M_init : Cond.instanceMethod y_M_init ∈ gws := gw_in 623 (by decide +kernel) (by decide +kernel)
theorem co_M_init : Cond.code y_M_init b_M_init 1 none ∈ gws := gw_in 624 (by decide +kernel) (by decide +kernel)
theorem X_L_55 : cwdI R_L 55 y_M_init b_M_init 1 0 := ⟨⟨gw_in 622 (by decide +kernel) (by decide +kernel), iM_M_init, Z_M, co_M_init⟩, ⟨by decide, by decide, by decide +kernel⟩, rfl⟩
theorem iM_M_function : Cond.instanceMethod y_M_function ∈ gws := gw_in 699 (by decide +kernel) (by decide +kernel)
theorem se_M_function : Cond.selects R_M y_M_function y_M_function ∈ gws := gw_in 700 (by decide +kernel) (by decide +kernel)
theorem co_M_function : Cond.code y_M_function b_M_function 2 (some .int) ∈ gws := gw_in 701 (by decide +kernel) (by decide +kernel)
theorem X_L_61 : cwdV R_L 61 y_M_function b_M_function 2 (some .int) 1 := ⟨⟨gw_in 698 (by decide +kernel) (by decide +kernel), iM_M_function, se_M_function, Z_M, co_M_function⟩, by decide, by decide, by decide +kernel⟩
theorem iM_M_thrown : Cond.instanceMethod y_M_thrown ∈ gws := gw_in 695 (by decide +kernel) (by decide +kernel)
theorem se_M_thrown : Cond.selects R_M y_M_thrown y_M_thrown ∈ gws := gw_in 696 (by decide +kernel) (by decide +kernel)
theorem co_M_thrown : Cond.code y_M_thrown b_M_thrown 1 (some .int) ∈ gws := gw_in 697 (by decide +kernel) (by decide +kernel)
theorem X_L_62 : cwdV R_L 62 y_M_thrown b_M_thrown 1 (some .int) 0 := ⟨⟨gw_in 694 (by decide +kernel) (by decide +kernel), iM_M_thrown, se_M_thrown, Z_M, co_M_thrown⟩, by decide, by decide, by decide +kernel⟩
theorem iM_M_operation : Cond.instanceMethod y_M_operation ∈ gws := gw_in 710 (by decide +kernel) (by decide +kernel)
theorem se_M_operation : Cond.selects R_M y_M_operation y_M_operation ∈ gws := gw_in 711 (by decide +kernel) (by decide +kernel)
theorem co_M_operation : Cond.code y_M_operation b_M_operation 7 (some .int) ∈ gws := gw_in 712 (by decide +kernel) (by decide +kernel)
theorem X_L_68 : cwdV R_L 68 y_M_operation b_M_operation 7 (some .int) 4 := ⟨⟨gw_in 709 (by decide +kernel) (by decide +kernel), iM_M_operation, se_M_operation, Z_M, co_M_operation⟩, by decide, by decide, by decide +kernel⟩
theorem iM_M_name : Cond.instanceMethod y_M_name ∈ gws := gw_in 714 (by decide +kernel) (by decide +kernel)
theorem se_M_name : Cond.selects R_M y_M_name y_M_name ∈ gws := gw_in 715 (by decide +kernel) (by decide +kernel)
theorem co_M_name : Cond.code y_M_name b_M_name 4 (some .int) ∈ gws := gw_in 716 (by decide +kernel) (by decide +kernel)
theorem X_L_72 : cwdV R_L 72 y_M_name b_M_name 4 (some .int) 2 := ⟨⟨gw_in 713 (by decide +kernel) (by decide +kernel), iM_M_name, se_M_name, Z_M, co_M_name⟩, by decide, by decide, by decide +kernel⟩
theorem iM_M_apply : Cond.instanceMethod y_M_apply ∈ gws := gw_in 718 (by decide +kernel) (by decide +kernel)
theorem se_M_apply : Cond.selects R_M y_M_apply y_M_apply ∈ gws := gw_in 719 (by decide +kernel) (by decide +kernel)
theorem co_M_apply : Cond.code y_M_apply b_M_apply 4 (some .int) ∈ gws := gw_in 720 (by decide +kernel) (by decide +kernel)
theorem X_L_76 : cwdV R_L 76 y_M_apply b_M_apply 4 (some .int) 0 := ⟨⟨gw_in 717 (by decide +kernel) (by decide +kernel), iM_M_apply, se_M_apply, Z_M, co_M_apply⟩, by decide, by decide, by decide +kernel⟩
theorem iM_M_turn : Cond.instanceMethod y_M_turn ∈ gws := gw_in 730 (by decide +kernel) (by decide +kernel)
theorem se_M_turn : Cond.selects R_M y_M_turn y_M_turn ∈ gws := gw_in 731 (by decide +kernel) (by decide +kernel)
theorem co_M_turn : Cond.code y_M_turn b_M_turn 2 (some .int) ∈ gws := gw_in 732 (by decide +kernel) (by decide +kernel)
theorem X_L_79 : cwdV R_L 79 y_M_turn b_M_turn 2 (some .int) 0 := ⟨⟨gw_in 729 (by decide +kernel) (by decide +kernel), iM_M_turn, se_M_turn, Z_M, co_M_turn⟩, by decide, by decide, by decide +kernel⟩
theorem iM_M_task : Cond.instanceMethod y_M_task ∈ gws := gw_in 734 (by decide +kernel) (by decide +kernel)
theorem se_M_task : Cond.selects R_M y_M_task y_M_task ∈ gws := gw_in 735 (by decide +kernel) (by decide +kernel)
theorem co_M_task : Cond.code y_M_task b_M_task 2 (some .int) ∈ gws := gw_in 736 (by decide +kernel) (by decide +kernel)
theorem X_L_82 : cwdV R_L 82 y_M_task b_M_task 2 (some .int) 1 := ⟨⟨gw_in 733 (by decide +kernel) (by decide +kernel), iM_M_task, se_M_task, Z_M, co_M_task⟩, by decide, by decide, by decide +kernel⟩
theorem iM_M_step : Cond.instanceMethod y_M_step ∈ gws := gw_in 746 (by decide +kernel) (by decide +kernel)
theorem se_M_step : Cond.selects R_M y_M_step y_M_step ∈ gws := gw_in 747 (by decide +kernel) (by decide +kernel)
theorem co_M_step : Cond.code y_M_step b_M_step 5 (some .int) ∈ gws := gw_in 748 (by decide +kernel) (by decide +kernel)
theorem X_L_85 : cwdV R_L 85 y_M_step b_M_step 5 (some .int) 2 := ⟨⟨gw_in 745 (by decide +kernel) (by decide +kernel), iM_M_step, se_M_step, Z_M, co_M_step⟩, by decide, by decide, by decide +kernel⟩
theorem iM_M_look : Cond.instanceMethod y_M_look ∈ gws := gw_in 758 (by decide +kernel) (by decide +kernel)
theorem se_M_look : Cond.selects R_M y_M_look y_M_look ∈ gws := gw_in 759 (by decide +kernel) (by decide +kernel)
theorem co_M_look : Cond.code y_M_look b_M_look 3 (some .int) ∈ gws := gw_in 760 (by decide +kernel) (by decide +kernel)
theorem X_L_88 : cwdV R_L 88 y_M_look b_M_look 3 (some .int) 2 := ⟨⟨gw_in 757 (by decide +kernel) (by decide +kernel), iM_M_look, se_M_look, Z_M, co_M_look⟩, by decide, by decide, by decide +kernel⟩
theorem iM_M_frame : Cond.instanceMethod y_M_frame ∈ gws := gw_in 766 (by decide +kernel) (by decide +kernel)
theorem se_M_frame : Cond.selects R_M y_M_frame y_M_frame ∈ gws := gw_in 767 (by decide +kernel) (by decide +kernel)
theorem co_M_frame : Cond.code y_M_frame b_M_frame 5 (some .int) ∈ gws := gw_in 768 (by decide +kernel) (by decide +kernel)
theorem X_L_92 : cwdV R_L 92 y_M_frame b_M_frame 5 (some .int) 3 := ⟨⟨gw_in 765 (by decide +kernel) (by decide +kernel), iM_M_frame, se_M_frame, Z_M, co_M_frame⟩, by decide, by decide, by decide +kernel⟩
theorem iM_D_patches : Cond.instanceMethod y_D_patches ∈ gws := gw_in 124 (by decide +kernel) (by decide +kernel)
theorem se_D_patches : Cond.selects R_D y_D_patches y_D_patches ∈ gws := gw_in 125 (by decide +kernel) (by decide +kernel)
theorem co_D_patches : Cond.code y_D_patches b_D_patches 1 (some .int) ∈ gws := gw_in 126 (by decide +kernel) (by decide +kernel)
theorem X_L_93 : cwdV R_L 93 y_D_patches b_D_patches 1 (some .int) 0 := ⟨⟨gw_in 123 (by decide +kernel) (by decide +kernel), iM_D_patches, se_D_patches, Z_D, co_D_patches⟩, by decide, by decide, by decide +kernel⟩
theorem iM_M_patches : Cond.instanceMethod y_M_patches ∈ gws := gw_in 770 (by decide +kernel) (by decide +kernel)
theorem se_M_patches : Cond.selects R_M y_M_patches y_M_patches ∈ gws := gw_in 771 (by decide +kernel) (by decide +kernel)
theorem co_M_patches : Cond.code y_M_patches b_M_patches 1 (some .int) ∈ gws := gw_in 772 (by decide +kernel) (by decide +kernel)
theorem X_L_96 : cwdV R_L 96 y_M_patches b_M_patches 1 (some .int) 0 := ⟨⟨gw_in 769 (by decide +kernel) (by decide +kernel), iM_M_patches, se_M_patches, Z_M, co_M_patches⟩, by decide, by decide, by decide +kernel⟩
theorem iM_D_target : Cond.instanceMethod y_D_target ∈ gws := gw_in 132 (by decide +kernel) (by decide +kernel)
theorem se_D_target : Cond.selects R_D y_D_target y_D_target ∈ gws := gw_in 133 (by decide +kernel) (by decide +kernel)
theorem co_D_target : Cond.code y_D_target b_D_target 1 (some .int) ∈ gws := gw_in 134 (by decide +kernel) (by decide +kernel)
theorem X_L_97 : cwdV R_L 97 y_D_target b_D_target 1 (some .int) 0 := ⟨⟨gw_in 131 (by decide +kernel) (by decide +kernel), iM_D_target, se_D_target, Z_D, co_D_target⟩, by decide, by decide, by decide +kernel⟩
theorem iM_M_target : Cond.instanceMethod y_M_target ∈ gws := gw_in 774 (by decide +kernel) (by decide +kernel)
theorem se_M_target : Cond.selects R_M y_M_target y_M_target ∈ gws := gw_in 775 (by decide +kernel) (by decide +kernel)
theorem co_M_target : Cond.code y_M_target b_M_target 1 (some .int) ∈ gws := gw_in 776 (by decide +kernel) (by decide +kernel)
theorem X_L_100 : cwdV R_L 100 y_M_target b_M_target 1 (some .int) 0 := ⟨⟨gw_in 773 (by decide +kernel) (by decide +kernel), iM_M_target, se_M_target, Z_M, co_M_target⟩, by decide, by decide, by decide +kernel⟩
theorem iM_M_body : Cond.instanceMethod y_M_body ∈ gws := gw_in 778 (by decide +kernel) (by decide +kernel)
theorem se_M_body : Cond.selects R_M y_M_body y_M_body ∈ gws := gw_in 779 (by decide +kernel) (by decide +kernel)
theorem co_M_body : Cond.code y_M_body b_M_body 3 (some .int) ∈ gws := gw_in 780 (by decide +kernel) (by decide +kernel)
theorem X_L_103 : cwdV R_L 103 y_M_body b_M_body 3 (some .int) 2 := ⟨⟨gw_in 777 (by decide +kernel) (by decide +kernel), iM_M_body, se_M_body, Z_M, co_M_body⟩, by decide, by decide, by decide +kernel⟩
theorem O_M_1 : Cond.methodLink R_M 1 objectInit ∈ gws := gw_in 625 (by decide +kernel) (by decide +kernel)
theorem sM_M_inn : Cond.static y_M_inn ∈ gws := gw_in 703 (by decide +kernel) (by decide +kernel)
theorem co_M_inn : Cond.code y_M_inn b_M_inn 3 (some .boolean) ∈ gws := gw_in 704 (by decide +kernel) (by decide +kernel)
theorem X_M_72 : cwdS R_M 72 y_M_inn b_M_inn 3 (some .boolean) 3 := ⟨⟨gw_in 702 (by decide +kernel) (by decide +kernel), sM_M_inn, Z_M, co_M_inn⟩, by decide, by decide, by decide +kernel⟩
theorem iM_M_fresh : Cond.instanceMethod y_M_fresh ∈ gws := gw_in 707 (by decide +kernel) (by decide +kernel)
theorem se_M_fresh : Cond.selects R_M y_M_fresh y_M_fresh ∈ gws := gw_in 19 (by decide +kernel) (by decide +kernel)
theorem co_M_fresh : Cond.code y_M_fresh b_M_fresh 1 (some .boolean) ∈ gws := gw_in 708 (by decide +kernel) (by decide +kernel)
theorem X_M_79 : cwdV R_M 79 y_M_fresh b_M_fresh 1 (some .boolean) 0 := ⟨⟨gw_in 705 (by decide +kernel) (by decide +kernel), iM_M_fresh, se_M_fresh, Z_M, co_M_fresh⟩, by decide, by decide, by decide +kernel⟩
theorem iM_M_takeBody : Cond.instanceMethod y_M_takeBody ∈ gws := gw_in 723 (by decide +kernel) (by decide +kernel)
theorem se_M_takeBody : Cond.selects R_M y_M_takeBody y_M_takeBody ∈ gws := gw_in 20 (by decide +kernel) (by decide +kernel)
theorem co_M_takeBody : Cond.code y_M_takeBody b_M_takeBody 4 none ∈ gws := gw_in 724 (by decide +kernel) (by decide +kernel)
theorem X_M_86 : cwdV R_M 86 y_M_takeBody b_M_takeBody 4 none 2 := ⟨⟨gw_in 721 (by decide +kernel) (by decide +kernel), iM_M_takeBody, se_M_takeBody, Z_M, co_M_takeBody⟩, by decide, by decide, by decide +kernel⟩
theorem iM_M_settle : Cond.instanceMethod y_M_settle ∈ gws := gw_in 727 (by decide +kernel) (by decide +kernel)
theorem se_M_settle : Cond.selects R_M y_M_settle y_M_settle ∈ gws := gw_in 21 (by decide +kernel) (by decide +kernel)
theorem co_M_settle : Cond.code y_M_settle b_M_settle 3 none ∈ gws := gw_in 728 (by decide +kernel) (by decide +kernel)
theorem X_M_90 : cwdV R_M 90 y_M_settle b_M_settle 3 none 0 := ⟨⟨gw_in 725 (by decide +kernel) (by decide +kernel), iM_M_settle, se_M_settle, Z_M, co_M_settle⟩, by decide, by decide, by decide +kernel⟩
theorem iM_M_bodyRow : Cond.instanceMethod y_M_bodyRow ∈ gws := gw_in 743 (by decide +kernel) (by decide +kernel)
theorem se_M_bodyRow : Cond.selects R_M y_M_bodyRow y_M_bodyRow ∈ gws := gw_in 23 (by decide +kernel) (by decide +kernel)
theorem co_M_bodyRow : Cond.code y_M_bodyRow b_M_bodyRow 5 (some .int) ∈ gws := gw_in 744 (by decide +kernel) (by decide +kernel)
theorem X_M_93 : cwdV R_M 93 y_M_bodyRow b_M_bodyRow 5 (some .int) 2 := ⟨⟨gw_in 741 (by decide +kernel) (by decide +kernel), iM_M_bodyRow, se_M_bodyRow, Z_M, co_M_bodyRow⟩, by decide, by decide, by decide +kernel⟩
theorem iM_M_enter : Cond.instanceMethod y_M_enter ∈ gws := gw_in 739 (by decide +kernel) (by decide +kernel)
theorem se_M_enter : Cond.selects R_M y_M_enter y_M_enter ∈ gws := gw_in 22 (by decide +kernel) (by decide +kernel)
theorem co_M_enter : Cond.code y_M_enter b_M_enter 4 none ∈ gws := gw_in 740 (by decide +kernel) (by decide +kernel)
theorem X_M_97 : cwdV R_M 97 y_M_enter b_M_enter 4 none 2 := ⟨⟨gw_in 737 (by decide +kernel) (by decide +kernel), iM_M_enter, se_M_enter, Z_M, co_M_enter⟩, by decide, by decide, by decide +kernel⟩
theorem iM_M_goes : Cond.instanceMethod y_M_goes ∈ gws := gw_in 751 (by decide +kernel) (by decide +kernel)
theorem se_M_goes : Cond.selects R_M y_M_goes y_M_goes ∈ gws := gw_in 24 (by decide +kernel) (by decide +kernel)
theorem co_M_goes : Cond.code y_M_goes b_M_goes 5 (some .boolean) ∈ gws := gw_in 752 (by decide +kernel) (by decide +kernel)
theorem X_M_100 : cwdV R_M 100 y_M_goes b_M_goes 5 (some .boolean) 1 := ⟨⟨gw_in 749 (by decide +kernel) (by decide +kernel), iM_M_goes, se_M_goes, Z_M, co_M_goes⟩, by decide, by decide, by decide +kernel⟩
theorem iM_M_stepOnce : Cond.instanceMethod y_M_stepOnce ∈ gws := gw_in 755 (by decide +kernel) (by decide +kernel)
theorem se_M_stepOnce : Cond.selects R_M y_M_stepOnce y_M_stepOnce ∈ gws := gw_in 25 (by decide +kernel) (by decide +kernel)
theorem co_M_stepOnce : Cond.code y_M_stepOnce b_M_stepOnce 5 none ∈ gws := gw_in 756 (by decide +kernel) (by decide +kernel)
theorem X_M_104 : cwdV R_M 104 y_M_stepOnce b_M_stepOnce 5 none 1 := ⟨⟨gw_in 753 (by decide +kernel) (by decide +kernel), iM_M_stepOnce, se_M_stepOnce, Z_M, co_M_stepOnce⟩, by decide, by decide, by decide +kernel⟩
theorem iM_M_fail : Cond.instanceMethod y_M_fail ∈ gws := gw_in 763 (by decide +kernel) (by decide +kernel)
theorem se_M_fail : Cond.selects R_M y_M_fail y_M_fail ∈ gws := gw_in 26 (by decide +kernel) (by decide +kernel)
theorem co_M_fail : Cond.code y_M_fail b_M_fail 2 (some .int) ∈ gws := gw_in 764 (by decide +kernel) (by decide +kernel)
theorem X_M_108 : cwdV R_M 108 y_M_fail b_M_fail 2 (some .int) 1 := ⟨⟨gw_in 761 (by decide +kernel) (by decide +kernel), iM_M_fail, se_M_fail, Z_M, co_M_fail⟩, by decide, by decide, by decide +kernel⟩
theorem O_ABC_1 : Cond.methodLink R_ABC 1 objectInit ∈ gws := gw_in 70 (by decide +kernel) (by decide +kernel)
theorem iM_ABC_init : Cond.instanceMethod y_ABC_init ∈ gws := gw_in 68 (by decide +kernel) (by decide +kernel)
theorem co_ABC_init : Cond.code y_ABC_init b_ABC_init 1 none ∈ gws := gw_in 69 (by decide +kernel) (by decide +kernel)
theorem X_ABL_1 : cwdI R_ABL 1 y_ABC_init b_ABC_init 1 0 := ⟨⟨gw_in 67 (by decide +kernel) (by decide +kernel), iM_ABC_init, Z_ABC, co_ABC_init⟩, ⟨by decide, by decide, by decide +kernel⟩, rfl⟩
theorem iM_ABL_init : Cond.instanceMethod y_ABL_init ∈ gws := gw_in 65 (by decide +kernel) (by decide +kernel)
theorem co_ABL_init : Cond.code y_ABL_init b_ABL_init 1 none ∈ gws := gw_in 66 (by decide +kernel) (by decide +kernel)
theorem X_AL_1 : cwdI R_AL 1 y_ABL_init b_ABL_init 1 0 := ⟨⟨gw_in 64 (by decide +kernel) (by decide +kernel), iM_ABL_init, Z_ABL, co_ABL_init⟩, ⟨by decide, by decide, by decide +kernel⟩, rfl⟩
theorem iM_AL_grow1 : Cond.instanceMethod y_AL_grow1 ∈ gws := gw_in 289 (by decide +kernel) (by decide +kernel)
theorem se_AL_grow1 : Cond.selects R_AL y_AL_grow1 y_AL_grow1 ∈ gws := gw_in 4 (by decide +kernel) (by decide +kernel)
theorem co_AL_grow1 : Cond.code y_AL_grow1 b_AL_grow1 4 (some (.array (.object "java/lang/Object"))) ∈ gws := gw_in 290 (by decide +kernel) (by decide +kernel)
theorem X_AL_69 : cwdV R_AL 69 y_AL_grow1 b_AL_grow1 4 (some (.array (.object "java/lang/Object"))) 1 := ⟨⟨gw_in 287 (by decide +kernel) (by decide +kernel), iM_AL_grow1, se_AL_grow1, Z_AL, co_AL_grow1⟩, by decide, by decide, by decide +kernel⟩
theorem sM_MA_max : Cond.static y_MA_max ∈ gws := gw_in 295 (by decide +kernel) (by decide +kernel)
theorem co_MA_max : Cond.code y_MA_max b_MA_max 2 (some .int) ∈ gws := gw_in 296 (by decide +kernel) (by decide +kernel)
theorem X_AL_79 : cwdS R_AL 79 y_MA_max b_MA_max 2 (some .int) 2 := ⟨⟨gw_in 332 (by decide +kernel) (by decide +kernel), sM_MA_max, Z_MA, co_MA_max⟩, by decide, by decide, by decide +kernel⟩
theorem sM_OB_checkIndex : Cond.static y_OB_checkIndex ∈ gws := gw_in 355 (by decide +kernel) (by decide +kernel)
theorem co_OB_checkIndex : Cond.code y_OB_checkIndex b_OB_checkIndex 2 (some .int) ∈ gws := gw_in 356 (by decide +kernel) (by decide +kernel)
theorem X_AL_118 : cwdS R_AL 118 y_OB_checkIndex b_OB_checkIndex 2 (some .int) 2 := ⟨⟨gw_in 354 (by decide +kernel) (by decide +kernel), sM_OB_checkIndex, Z_OB, co_OB_checkIndex⟩, by decide, by decide, by decide +kernel⟩
theorem iM_AL_elementData : Cond.instanceMethod y_AL_elementData ∈ gws := gw_in 361 (by decide +kernel) (by decide +kernel)
theorem se_AL_elementData : Cond.selects R_AL y_AL_elementData y_AL_elementData ∈ gws := gw_in 362 (by decide +kernel) (by decide +kernel)
theorem co_AL_elementData : Cond.code y_AL_elementData b_AL_elementData 2 (some (.object "java/lang/Object")) ∈ gws := gw_in 363 (by decide +kernel) (by decide +kernel)
theorem X_AL_123 : cwdV R_AL 123 y_AL_elementData b_AL_elementData 2 (some (.object "java/lang/Object")) 1 := ⟨⟨gw_in 360 (by decide +kernel) (by decide +kernel), iM_AL_elementData, se_AL_elementData, Z_AL, co_AL_elementData⟩, by decide, by decide, by decide +kernel⟩
theorem iM_AL_grow0 : Cond.instanceMethod y_AL_grow0 ∈ gws := gw_in 285 (by decide +kernel) (by decide +kernel)
theorem se_AL_grow0 : Cond.selects R_AL y_AL_grow0 y_AL_grow0 ∈ gws := gw_in 3 (by decide +kernel) (by decide +kernel)
theorem co_AL_grow0 : Cond.code y_AL_grow0 b_AL_grow0 1 (some (.array (.object "java/lang/Object"))) ∈ gws := gw_in 286 (by decide +kernel) (by decide +kernel)
theorem X_AL_129 : cwdV R_AL 129 y_AL_grow0 b_AL_grow0 1 (some (.array (.object "java/lang/Object"))) 0 := ⟨⟨gw_in 283 (by decide +kernel) (by decide +kernel), iM_AL_grow0, se_AL_grow0, Z_AL, co_AL_grow0⟩, by decide, by decide, by decide +kernel⟩
theorem iM_AL_add1 : Cond.instanceMethod y_AL_add1 ∈ gws := gw_in 281 (by decide +kernel) (by decide +kernel)
theorem se_AL_add1 : Cond.selects R_AL y_AL_add1 y_AL_add1 ∈ gws := gw_in 2 (by decide +kernel) (by decide +kernel)
theorem co_AL_add1 : Cond.code y_AL_add1 b_AL_add1 4 none ∈ gws := gw_in 282 (by decide +kernel) (by decide +kernel)
theorem X_AL_131 : cwdV R_AL 131 y_AL_add1 b_AL_add1 4 none 3 := ⟨⟨gw_in 279 (by decide +kernel) (by decide +kernel), iM_AL_add1, se_AL_add1, Z_AL, co_AL_add1⟩, by decide, by decide, by decide +kernel⟩
theorem iM_AL_fastRemove : Cond.instanceMethod y_AL_fastRemove ∈ gws := gw_in 436 (by decide +kernel) (by decide +kernel)
theorem se_AL_fastRemove : Cond.selects R_AL y_AL_fastRemove y_AL_fastRemove ∈ gws := gw_in 10 (by decide +kernel) (by decide +kernel)
theorem co_AL_fastRemove : Cond.code y_AL_fastRemove b_AL_fastRemove 4 none ∈ gws := gw_in 437 (by decide +kernel) (by decide +kernel)
theorem X_AL_144 : cwdV R_AL 144 y_AL_fastRemove b_AL_fastRemove 4 none 2 := ⟨⟨gw_in 434 (by decide +kernel) (by decide +kernel), iM_AL_fastRemove, se_AL_fastRemove, Z_AL, co_AL_fastRemove⟩, by decide, by decide, by decide +kernel⟩
theorem sM_PC_checkIndex : Cond.static y_PC_checkIndex ∈ gws := gw_in 358 (by decide +kernel) (by decide +kernel)
theorem co_PC_checkIndex : Cond.code y_PC_checkIndex b_PC_checkIndex 3 (some .int) ∈ gws := gw_in 359 (by decide +kernel) (by decide +kernel)
theorem X_OB_105 : cwdS R_OB 105 y_PC_checkIndex b_PC_checkIndex 3 (some .int) 3 := ⟨⟨gw_in 357 (by decide +kernel) (by decide +kernel), sM_PC_checkIndex, Z_PC, co_PC_checkIndex⟩, by decide, by decide, by decide +kernel⟩
theorem iM_obj : Cond.instanceMethod objectInit ∈ gws := gw_in 57 (by decide +kernel) (by decide +kernel)
theorem co_obj : Cond.code objectInit ⟨#[0xb1]⟩ 1 none ∈ gws := gw_in 58 (by decide +kernel) (by decide +kernel)
theorem aC_int : Cond.arrayClass .int ∈ gws := gw_in 106 (by decide +kernel) (by decide +kernel)
theorem aC_boolean : Cond.arrayClass .boolean ∈ gws := gw_in 693 (by decide +kernel) (by decide +kernel)
theorem aC_long : Cond.arrayClass .long ∈ gws := gw_in 781 (by decide +kernel) (by decide +kernel)
end
section
theorem d_AL_init_0 : decode b_AL_init 0 = .ok (.aload_n 0, 1) := by decide +kernel
theorem d_AL_init_1 : decode b_AL_init 1 = .ok (.invokespecial 1, 3) := by decide +kernel
theorem d_AL_init_4 : decode b_AL_init 4 = .ok (.aload_n 0, 1) := by decide +kernel
theorem d_AL_init_5 : decode b_AL_init 5 = .ok (.getstatic 39, 3) := by decide +kernel
theorem d_AL_init_8 : decode b_AL_init 8 = .ok (.putfield 9, 3) := by decide +kernel
theorem d_AL_init_11 : decode b_AL_init 11 = .ok (.return_, 1) := by decide +kernel
theorem d_ABL_init_0 : decode b_ABL_init 0 = .ok (.aload_n 0, 1) := by decide +kernel
theorem d_ABL_init_1 : decode b_ABL_init 1 = .ok (.invokespecial 1, 3) := by decide +kernel
theorem d_ABL_init_4 : decode b_ABL_init 4 = .ok (.aload_n 0, 1) := by decide +kernel
theorem d_ABL_init_5 : decode b_ABL_init 5 = .ok (.iconst 0, 1) := by decide +kernel
theorem d_ABL_init_6 : decode b_ABL_init 6 = .ok (.putfield 7, 3) := by decide +kernel
theorem d_ABL_init_9 : decode b_ABL_init 9 = .ok (.return_, 1) := by decide +kernel
theorem d_P_init_0 : decode b_P_init 0 = .ok (.aload_n 0, 1) := by decide +kernel
theorem d_P_init_1 : decode b_P_init 1 = .ok (.invokespecial 3, 3) := by decide +kernel
theorem d_P_init_4 : decode b_P_init 4 = .ok (.aload_n 0, 1) := by decide +kernel
theorem d_P_init_5 : decode b_P_init 5 = .ok (.bipush 8, 2) := by decide +kernel
theorem d_P_init_7 : decode b_P_init 7 = .ok (.anewarray 9, 3) := by decide +kernel
theorem d_P_init_10 : decode b_P_init 10 = .ok (.putfield 11, 3) := by decide +kernel
theorem d_P_init_13 : decode b_P_init 13 = .ok (.aload_n 0, 1) := by decide +kernel
theorem d_P_init_14 : decode b_P_init 14 = .ok (.bipush 8, 2) := by decide +kernel
theorem d_P_init_16 : decode b_P_init 16 = .ok (.newarray .int, 2) := by decide +kernel
theorem d_P_init_18 : decode b_P_init 18 = .ok (.putfield 17, 3) := by decide +kernel
theorem d_P_init_21 : decode b_P_init 21 = .ok (.return_, 1) := by decide +kernel
theorem d_AL_size_0 : decode b_AL_size 0 = .ok (.aload_n 0, 1) := by decide +kernel
theorem d_AL_size_1 : decode b_AL_size 1 = .ok (.getfield 48, 3) := by decide +kernel
theorem d_AL_size_4 : decode b_AL_size 4 = .ok (.ireturn, 1) := by decide +kernel
theorem d_AL_isEmpty_0 : decode b_AL_isEmpty 0 = .ok (.aload_n 0, 1) := by decide +kernel
theorem d_AL_isEmpty_1 : decode b_AL_isEmpty 1 = .ok (.getfield 48, 3) := by decide +kernel
theorem d_AL_isEmpty_4 : decode b_AL_isEmpty 4 = .ok (.ifCond .ne 7, 3) := by decide +kernel
theorem d_AL_isEmpty_7 : decode b_AL_isEmpty 7 = .ok (.iconst 1, 1) := by decide +kernel
theorem d_AL_isEmpty_8 : decode b_AL_isEmpty 8 = .ok (.goto 4, 3) := by decide +kernel
theorem d_AL_isEmpty_11 : decode b_AL_isEmpty 11 = .ok (.iconst 0, 1) := by decide +kernel
theorem d_AL_isEmpty_12 : decode b_AL_isEmpty 12 = .ok (.ireturn, 1) := by decide +kernel
theorem d_Fn_init_0 : decode b_Fn_init 0 = .ok (.aload_n 0, 1) := by decide +kernel
theorem d_Fn_init_1 : decode b_Fn_init 1 = .ok (.invokespecial 1, 3) := by decide +kernel
theorem d_Fn_init_4 : decode b_Fn_init 4 = .ok (.aload_n 0, 1) := by decide +kernel
theorem d_Fn_init_5 : decode b_Fn_init 5 = .ok (.iload_n 1, 1) := by decide +kernel
theorem d_Fn_init_6 : decode b_Fn_init 6 = .ok (.putfield 7, 3) := by decide +kernel
theorem d_Fn_init_9 : decode b_Fn_init 9 = .ok (.aload_n 0, 1) := by decide +kernel
theorem d_Fn_init_10 : decode b_Fn_init 10 = .ok (.new 13, 3) := by decide +kernel
theorem d_Fn_init_13 : decode b_Fn_init 13 = .ok (.dup, 1) := by decide +kernel
theorem d_Fn_init_14 : decode b_Fn_init 14 = .ok (.invokespecial 15, 3) := by decide +kernel
theorem d_Fn_init_17 : decode b_Fn_init 17 = .ok (.putfield 16, 3) := by decide +kernel
theorem d_Fn_init_20 : decode b_Fn_init 20 = .ok (.return_, 1) := by decide +kernel
theorem d_B_init_0 : decode b_B_init 0 = .ok (.aload_n 0, 1) := by decide +kernel
theorem d_B_init_1 : decode b_B_init 1 = .ok (.invokespecial 3, 3) := by decide +kernel
theorem d_B_init_4 : decode b_B_init 4 = .ok (.aload_n 0, 1) := by decide +kernel
theorem d_B_init_5 : decode b_B_init 5 = .ok (.bipush 12, 2) := by decide +kernel
theorem d_B_init_7 : decode b_B_init 7 = .ok (.newarray .int, 2) := by decide +kernel
theorem d_B_init_9 : decode b_B_init 9 = .ok (.putfield 9, 3) := by decide +kernel
theorem d_B_init_12 : decode b_B_init 12 = .ok (.aload_n 0, 1) := by decide +kernel
theorem d_B_init_13 : decode b_B_init 13 = .ok (.bipush 12, 2) := by decide +kernel
theorem d_B_init_15 : decode b_B_init 15 = .ok (.newarray .int, 2) := by decide +kernel
theorem d_B_init_17 : decode b_B_init 17 = .ok (.putfield 15, 3) := by decide +kernel
theorem d_B_init_20 : decode b_B_init 20 = .ok (.return_, 1) := by decide +kernel
theorem d_AL_add0_0 : decode b_AL_add0 0 = .ok (.aload_n 0, 1) := by decide +kernel
theorem d_AL_add0_1 : decode b_AL_add0 1 = .ok (.dup, 1) := by decide +kernel
theorem d_AL_add0_2 : decode b_AL_add0 2 = .ok (.getfield 63, 3) := by decide +kernel
theorem d_AL_add0_5 : decode b_AL_add0 5 = .ok (.iconst 1, 1) := by decide +kernel
theorem d_AL_add0_6 : decode b_AL_add0 6 = .ok (.iadd, 1) := by decide +kernel
theorem d_AL_add0_7 : decode b_AL_add0 7 = .ok (.putfield 63, 3) := by decide +kernel
theorem d_AL_add0_10 : decode b_AL_add0 10 = .ok (.aload_n 0, 1) := by decide +kernel
theorem d_AL_add0_11 : decode b_AL_add0 11 = .ok (.aload_n 1, 1) := by decide +kernel
theorem d_AL_add0_12 : decode b_AL_add0 12 = .ok (.aload_n 0, 1) := by decide +kernel
theorem d_AL_add0_13 : decode b_AL_add0 13 = .ok (.getfield 9, 3) := by decide +kernel
theorem d_AL_add0_16 : decode b_AL_add0 16 = .ok (.aload_n 0, 1) := by decide +kernel
theorem d_AL_add0_17 : decode b_AL_add0 17 = .ok (.getfield 48, 3) := by decide +kernel
theorem d_AL_add0_20 : decode b_AL_add0 20 = .ok (.invokevirtual 131, 3) := by decide +kernel
theorem d_AL_add0_23 : decode b_AL_add0 23 = .ok (.iconst 1, 1) := by decide +kernel
theorem d_AL_add0_24 : decode b_AL_add0 24 = .ok (.ireturn, 1) := by decide +kernel
theorem d_AL_add1_0 : decode b_AL_add1 0 = .ok (.iload_n 3, 1) := by decide +kernel
theorem d_AL_add1_1 : decode b_AL_add1 1 = .ok (.aload_n 2, 1) := by decide +kernel
theorem d_AL_add1_2 : decode b_AL_add1 2 = .ok (.arraylength, 1) := by decide +kernel
theorem d_AL_add1_3 : decode b_AL_add1 3 = .ok (.if_icmp .ne 8, 3) := by decide +kernel
theorem d_AL_add1_6 : decode b_AL_add1 6 = .ok (.aload_n 0, 1) := by decide +kernel
theorem d_AL_add1_7 : decode b_AL_add1 7 = .ok (.invokevirtual 129, 3) := by decide +kernel
theorem d_AL_add1_10 : decode b_AL_add1 10 = .ok (.astore_n 2, 1) := by decide +kernel
theorem d_AL_add1_11 : decode b_AL_add1 11 = .ok (.aload_n 2, 1) := by decide +kernel
theorem d_AL_add1_12 : decode b_AL_add1 12 = .ok (.iload_n 3, 1) := by decide +kernel
theorem d_AL_add1_13 : decode b_AL_add1 13 = .ok (.aload_n 1, 1) := by decide +kernel
theorem d_AL_add1_14 : decode b_AL_add1 14 = .ok (.aastore, 1) := by decide +kernel
theorem d_AL_add1_15 : decode b_AL_add1 15 = .ok (.aload_n 0, 1) := by decide +kernel
theorem d_AL_add1_16 : decode b_AL_add1 16 = .ok (.iload_n 3, 1) := by decide +kernel
theorem d_AL_add1_17 : decode b_AL_add1 17 = .ok (.iconst 1, 1) := by decide +kernel
theorem d_AL_add1_18 : decode b_AL_add1 18 = .ok (.iadd, 1) := by decide +kernel
theorem d_AL_add1_19 : decode b_AL_add1 19 = .ok (.putfield 48, 3) := by decide +kernel
theorem d_AL_add1_22 : decode b_AL_add1 22 = .ok (.return_, 1) := by decide +kernel
theorem d_AL_grow0_0 : decode b_AL_grow0 0 = .ok (.aload_n 0, 1) := by decide +kernel
theorem d_AL_grow0_1 : decode b_AL_grow0 1 = .ok (.aload_n 0, 1) := by decide +kernel
theorem d_AL_grow0_2 : decode b_AL_grow0 2 = .ok (.getfield 48, 3) := by decide +kernel
theorem d_AL_grow0_5 : decode b_AL_grow0 5 = .ok (.iconst 1, 1) := by decide +kernel
theorem d_AL_grow0_6 : decode b_AL_grow0 6 = .ok (.iadd, 1) := by decide +kernel
theorem d_AL_grow0_7 : decode b_AL_grow0 7 = .ok (.invokevirtual 69, 3) := by decide +kernel
theorem d_AL_grow0_10 : decode b_AL_grow0 10 = .ok (.areturn, 1) := by decide +kernel
theorem d_AL_grow1_0 : decode b_AL_grow1 0 = .ok (.aload_n 0, 1) := by decide +kernel
theorem d_AL_grow1_1 : decode b_AL_grow1 1 = .ok (.getfield 9, 3) := by decide +kernel
theorem d_AL_grow1_4 : decode b_AL_grow1 4 = .ok (.arraylength, 1) := by decide +kernel
theorem d_AL_grow1_5 : decode b_AL_grow1 5 = .ok (.istore_n 2, 1) := by decide +kernel
theorem d_AL_grow1_6 : decode b_AL_grow1 6 = .ok (.iload_n 2, 1) := by decide +kernel
theorem d_AL_grow1_7 : decode b_AL_grow1 7 = .ok (.ifCond .gt 13, 3) := by decide +kernel
theorem d_AL_grow1_10 : decode b_AL_grow1 10 = .ok (.aload_n 0, 1) := by decide +kernel
theorem d_AL_grow1_11 : decode b_AL_grow1 11 = .ok (.getfield 9, 3) := by decide +kernel
theorem d_AL_grow1_14 : decode b_AL_grow1 14 = .ok (.getstatic 39, 3) := by decide +kernel
theorem d_AL_grow1_17 : decode b_AL_grow1 17 = .ok (.if_acmp .eq 28, 3) := by decide +kernel
theorem d_AL_grow1_20 : decode b_AL_grow1 20 = .ok (.iload_n 2, 1) := by decide +kernel
theorem d_AL_grow1_21 : decode b_AL_grow1 21 = .ok (.iload_n 1, 1) := by decide +kernel
theorem d_AL_grow1_22 : decode b_AL_grow1 22 = .ok (.iload_n 2, 1) := by decide +kernel
theorem d_AL_grow1_23 : decode b_AL_grow1 23 = .ok (.isub, 1) := by decide +kernel
theorem d_AL_grow1_24 : decode b_AL_grow1 24 = .ok (.iload_n 2, 1) := by decide +kernel
theorem d_AL_grow1_25 : decode b_AL_grow1 25 = .ok (.iconst 1, 1) := by decide +kernel
theorem d_AL_grow1_26 : decode b_AL_grow1 26 = .ok (.ishr, 1) := by decide +kernel
theorem d_AL_grow1_27 : decode b_AL_grow1 27 = .ok (.invokestatic 73, 3) := by decide +kernel
theorem d_AL_grow1_30 : decode b_AL_grow1 30 = .ok (.istore_n 3, 1) := by decide +kernel
theorem d_AL_grow1_31 : decode b_AL_grow1 31 = .ok (.aload_n 0, 1) := by decide +kernel
theorem d_AL_grow1_32 : decode b_AL_grow1 32 = .ok (.aload_n 0, 1) := by decide +kernel
theorem d_AL_grow1_33 : decode b_AL_grow1 33 = .ok (.getfield 9, 3) := by decide +kernel
theorem d_AL_grow1_36 : decode b_AL_grow1 36 = .ok (.iload_n 3, 1) := by decide +kernel
theorem d_AL_grow1_37 : decode b_AL_grow1 37 = .ok (.invokestatic 66, 3) := by decide +kernel
theorem d_AL_grow1_40 : decode b_AL_grow1 40 = .ok (.dup_x1, 1) := by decide +kernel
theorem d_AL_grow1_41 : decode b_AL_grow1 41 = .ok (.putfield 9, 3) := by decide +kernel
theorem d_AL_grow1_44 : decode b_AL_grow1 44 = .ok (.areturn, 1) := by decide +kernel
theorem d_AL_grow1_45 : decode b_AL_grow1 45 = .ok (.aload_n 0, 1) := by decide +kernel
theorem d_AL_grow1_46 : decode b_AL_grow1 46 = .ok (.bipush 10, 2) := by decide +kernel
theorem d_AL_grow1_48 : decode b_AL_grow1 48 = .ok (.iload_n 1, 1) := by decide +kernel
theorem d_AL_grow1_49 : decode b_AL_grow1 49 = .ok (.invokestatic 79, 3) := by decide +kernel
theorem d_AL_grow1_52 : decode b_AL_grow1 52 = .ok (.anewarray 7, 3) := by decide +kernel
theorem d_AL_grow1_55 : decode b_AL_grow1 55 = .ok (.dup_x1, 1) := by decide +kernel
theorem d_AL_grow1_56 : decode b_AL_grow1 56 = .ok (.putfield 9, 3) := by decide +kernel
theorem d_AL_grow1_59 : decode b_AL_grow1 59 = .ok (.areturn, 1) := by decide +kernel
theorem d_MA_max_0 : decode b_MA_max 0 = .ok (.iload_n 0, 1) := by decide +kernel
theorem d_MA_max_1 : decode b_MA_max 1 = .ok (.iload_n 1, 1) := by decide +kernel
theorem d_MA_max_2 : decode b_MA_max 2 = .ok (.if_icmp .lt 7, 3) := by decide +kernel
theorem d_MA_max_5 : decode b_MA_max 5 = .ok (.iload_n 0, 1) := by decide +kernel
theorem d_MA_max_6 : decode b_MA_max 6 = .ok (.goto 4, 3) := by decide +kernel
theorem d_MA_max_9 : decode b_MA_max 9 = .ok (.iload_n 1, 1) := by decide +kernel
theorem d_MA_max_10 : decode b_MA_max 10 = .ok (.ireturn, 1) := by decide +kernel
theorem d_MA_min_0 : decode b_MA_min 0 = .ok (.iload_n 0, 1) := by decide +kernel
theorem d_MA_min_1 : decode b_MA_min 1 = .ok (.iload_n 1, 1) := by decide +kernel
theorem d_MA_min_2 : decode b_MA_min 2 = .ok (.if_icmp .gt 7, 3) := by decide +kernel
theorem d_MA_min_5 : decode b_MA_min 5 = .ok (.iload_n 0, 1) := by decide +kernel
theorem d_MA_min_6 : decode b_MA_min 6 = .ok (.goto 4, 3) := by decide +kernel
theorem d_MA_min_9 : decode b_MA_min 9 = .ok (.iload_n 1, 1) := by decide +kernel
theorem d_MA_min_10 : decode b_MA_min 10 = .ok (.ireturn, 1) := by decide +kernel
theorem d_P_hasNamed_0 : decode b_P_hasNamed 0 = .ok (.aload_n 0, 1) := by decide +kernel
theorem d_P_hasNamed_1 : decode b_P_hasNamed 1 = .ok (.getfield 11, 3) := by decide +kernel
theorem d_P_hasNamed_4 : decode b_P_hasNamed 4 = .ok (.iload_n 1, 1) := by decide +kernel
theorem d_P_hasNamed_5 : decode b_P_hasNamed 5 = .ok (.aaload, 1) := by decide +kernel
theorem d_P_hasNamed_6 : decode b_P_hasNamed 6 = .ok (.ifnull 7, 3) := by decide +kernel
theorem d_P_hasNamed_9 : decode b_P_hasNamed 9 = .ok (.iconst 1, 1) := by decide +kernel
theorem d_P_hasNamed_10 : decode b_P_hasNamed 10 = .ok (.goto 4, 3) := by decide +kernel
theorem d_P_hasNamed_13 : decode b_P_hasNamed 13 = .ok (.iconst 0, 1) := by decide +kernel
theorem d_P_hasNamed_14 : decode b_P_hasNamed 14 = .ok (.ireturn, 1) := by decide +kernel
theorem d_AL_get_0 : decode b_AL_get 0 = .ok (.iload_n 1, 1) := by decide +kernel
theorem d_AL_get_1 : decode b_AL_get 1 = .ok (.aload_n 0, 1) := by decide +kernel
theorem d_AL_get_2 : decode b_AL_get 2 = .ok (.getfield 48, 3) := by decide +kernel
theorem d_AL_get_5 : decode b_AL_get 5 = .ok (.invokestatic 118, 3) := by decide +kernel
theorem d_AL_get_8 : decode b_AL_get 8 = .ok (.pop, 1) := by decide +kernel
theorem d_AL_get_9 : decode b_AL_get 9 = .ok (.aload_n 0, 1) := by decide +kernel
theorem d_AL_get_10 : decode b_AL_get 10 = .ok (.iload_n 1, 1) := by decide +kernel
theorem d_AL_get_11 : decode b_AL_get 11 = .ok (.invokevirtual 123, 3) := by decide +kernel
theorem d_AL_get_14 : decode b_AL_get 14 = .ok (.areturn, 1) := by decide +kernel
theorem d_OB_checkIndex_0 : decode b_OB_checkIndex 0 = .ok (.iload_n 0, 1) := by decide +kernel
theorem d_OB_checkIndex_1 : decode b_OB_checkIndex 1 = .ok (.iload_n 1, 1) := by decide +kernel
theorem d_OB_checkIndex_2 : decode b_OB_checkIndex 2 = .ok (.aconst_null, 1) := by decide +kernel
theorem d_OB_checkIndex_3 : decode b_OB_checkIndex 3 = .ok (.invokestatic 105, 3) := by decide +kernel
theorem d_OB_checkIndex_6 : decode b_OB_checkIndex 6 = .ok (.ireturn, 1) := by decide +kernel
theorem d_PC_checkIndex_0 : decode b_PC_checkIndex 0 = .ok (.iload_n 0, 1) := by decide +kernel
theorem d_PC_checkIndex_1 : decode b_PC_checkIndex 1 = .ok (.ifCond .lt 8, 3) := by decide +kernel
theorem d_PC_checkIndex_4 : decode b_PC_checkIndex 4 = .ok (.iload_n 0, 1) := by decide +kernel
theorem d_PC_checkIndex_5 : decode b_PC_checkIndex 5 = .ok (.iload_n 1, 1) := by decide +kernel
theorem d_PC_checkIndex_6 : decode b_PC_checkIndex 6 = .ok (.if_icmp .lt 10, 3) := by decide +kernel
theorem d_PC_checkIndex_9 : decode b_PC_checkIndex 9 = .ok (.aload_n 2, 1) := by decide +kernel
theorem d_PC_checkIndex_10 : decode b_PC_checkIndex 10 = .ok (.iload_n 0, 1) := by decide +kernel
theorem d_PC_checkIndex_11 : decode b_PC_checkIndex 11 = .ok (.iload_n 1, 1) := by decide +kernel
theorem d_PC_checkIndex_12 : decode b_PC_checkIndex 12 = .ok (.invokestatic 95, 3) := by decide +kernel
theorem d_PC_checkIndex_15 : decode b_PC_checkIndex 15 = .ok (.athrow, 1) := by decide +kernel
theorem d_PC_checkIndex_16 : decode b_PC_checkIndex 16 = .ok (.iload_n 0, 1) := by decide +kernel
theorem d_PC_checkIndex_17 : decode b_PC_checkIndex 17 = .ok (.ireturn, 1) := by decide +kernel
theorem d_AL_elementData_0 : decode b_AL_elementData 0 = .ok (.aload_n 0, 1) := by decide +kernel
theorem d_AL_elementData_1 : decode b_AL_elementData 1 = .ok (.getfield 9, 3) := by decide +kernel
theorem d_AL_elementData_4 : decode b_AL_elementData 4 = .ok (.iload_n 1, 1) := by decide +kernel
theorem d_AL_elementData_5 : decode b_AL_elementData 5 = .ok (.aaload, 1) := by decide +kernel
theorem d_AL_elementData_6 : decode b_AL_elementData 6 = .ok (.areturn, 1) := by decide +kernel
theorem d_B_isFull_0 : decode b_B_isFull 0 = .ok (.aload_n 0, 1) := by decide +kernel
theorem d_B_isFull_1 : decode b_B_isFull 1 = .ok (.getfield 18, 3) := by decide +kernel
theorem d_B_isFull_4 : decode b_B_isFull 4 = .ok (.bipush 12, 2) := by decide +kernel
theorem d_B_isFull_6 : decode b_B_isFull 6 = .ok (.if_icmp .lt 7, 3) := by decide +kernel
theorem d_B_isFull_9 : decode b_B_isFull 9 = .ok (.iconst 1, 1) := by decide +kernel
theorem d_B_isFull_10 : decode b_B_isFull 10 = .ok (.goto 4, 3) := by decide +kernel
theorem d_B_isFull_13 : decode b_B_isFull 13 = .ok (.iconst 0, 1) := by decide +kernel
theorem d_B_isFull_14 : decode b_B_isFull 14 = .ok (.ireturn, 1) := by decide +kernel
theorem d_B_append_0 : decode b_B_append 0 = .ok (.aload_n 0, 1) := by decide +kernel
theorem d_B_append_1 : decode b_B_append 1 = .ok (.getfield 9, 3) := by decide +kernel
theorem d_B_append_4 : decode b_B_append 4 = .ok (.aload_n 0, 1) := by decide +kernel
theorem d_B_append_5 : decode b_B_append 5 = .ok (.getfield 18, 3) := by decide +kernel
theorem d_B_append_8 : decode b_B_append 8 = .ok (.iload_n 1, 1) := by decide +kernel
theorem d_B_append_9 : decode b_B_append 9 = .ok (.iastore, 1) := by decide +kernel
theorem d_B_append_10 : decode b_B_append 10 = .ok (.aload_n 0, 1) := by decide +kernel
theorem d_B_append_11 : decode b_B_append 11 = .ok (.getfield 15, 3) := by decide +kernel
theorem d_B_append_14 : decode b_B_append 14 = .ok (.aload_n 0, 1) := by decide +kernel
theorem d_B_append_15 : decode b_B_append 15 = .ok (.getfield 18, 3) := by decide +kernel
theorem d_B_append_18 : decode b_B_append 18 = .ok (.iload_n 2, 1) := by decide +kernel
theorem d_B_append_19 : decode b_B_append 19 = .ok (.iastore, 1) := by decide +kernel
theorem d_B_append_20 : decode b_B_append 20 = .ok (.aload_n 0, 1) := by decide +kernel
theorem d_B_append_21 : decode b_B_append 21 = .ok (.dup, 1) := by decide +kernel
theorem d_B_append_22 : decode b_B_append 22 = .ok (.getfield 18, 3) := by decide +kernel
theorem d_B_append_25 : decode b_B_append 25 = .ok (.iconst 1, 1) := by decide +kernel
theorem d_B_append_26 : decode b_B_append 26 = .ok (.iadd, 1) := by decide +kernel
theorem d_B_append_27 : decode b_B_append 27 = .ok (.putfield 18, 3) := by decide +kernel
theorem d_B_append_30 : decode b_B_append 30 = .ok (.return_, 1) := by decide +kernel
theorem d_P_include_0 : decode b_P_include 0 = .ok (.aload_n 0, 1) := by decide +kernel
theorem d_P_include_1 : decode b_P_include 1 = .ok (.getfield 11, 3) := by decide +kernel
theorem d_P_include_4 : decode b_P_include 4 = .ok (.iload_n 1, 1) := by decide +kernel
theorem d_P_include_5 : decode b_P_include 5 = .ok (.new 9, 3) := by decide +kernel
theorem d_P_include_8 : decode b_P_include 8 = .ok (.dup, 1) := by decide +kernel
theorem d_P_include_9 : decode b_P_include 9 = .ok (.invokespecial 21, 3) := by decide +kernel
theorem d_P_include_12 : decode b_P_include 12 = .ok (.aastore, 1) := by decide +kernel
theorem d_P_include_13 : decode b_P_include 13 = .ok (.aload_n 0, 1) := by decide +kernel
theorem d_P_include_14 : decode b_P_include 14 = .ok (.getfield 17, 3) := by decide +kernel
theorem d_P_include_17 : decode b_P_include 17 = .ok (.iload_n 1, 1) := by decide +kernel
theorem d_P_include_18 : decode b_P_include 18 = .ok (.iload_n 2, 1) := by decide +kernel
theorem d_P_include_19 : decode b_P_include 19 = .ok (.iastore, 1) := by decide +kernel
theorem d_P_include_20 : decode b_P_include 20 = .ok (.aload_n 0, 1) := by decide +kernel
theorem d_P_include_21 : decode b_P_include 21 = .ok (.dup, 1) := by decide +kernel
theorem d_P_include_22 : decode b_P_include 22 = .ok (.getfield 22, 3) := by decide +kernel
theorem d_P_include_25 : decode b_P_include 25 = .ok (.iconst 1, 1) := by decide +kernel
theorem d_P_include_26 : decode b_P_include 26 = .ok (.iadd, 1) := by decide +kernel
theorem d_P_include_27 : decode b_P_include 27 = .ok (.putfield 22, 3) := by decide +kernel
theorem d_P_include_30 : decode b_P_include 30 = .ok (.return_, 1) := by decide +kernel
theorem d_AL_remove_0 : decode b_AL_remove 0 = .ok (.iload_n 1, 1) := by decide +kernel
theorem d_AL_remove_1 : decode b_AL_remove 1 = .ok (.aload_n 0, 1) := by decide +kernel
theorem d_AL_remove_2 : decode b_AL_remove 2 = .ok (.getfield 48, 3) := by decide +kernel
theorem d_AL_remove_5 : decode b_AL_remove 5 = .ok (.invokestatic 118, 3) := by decide +kernel
theorem d_AL_remove_8 : decode b_AL_remove 8 = .ok (.pop, 1) := by decide +kernel
theorem d_AL_remove_9 : decode b_AL_remove 9 = .ok (.aload_n 0, 1) := by decide +kernel
theorem d_AL_remove_10 : decode b_AL_remove 10 = .ok (.getfield 9, 3) := by decide +kernel
theorem d_AL_remove_13 : decode b_AL_remove 13 = .ok (.astore_n 2, 1) := by decide +kernel
theorem d_AL_remove_14 : decode b_AL_remove 14 = .ok (.aload_n 2, 1) := by decide +kernel
theorem d_AL_remove_15 : decode b_AL_remove 15 = .ok (.iload_n 1, 1) := by decide +kernel
theorem d_AL_remove_16 : decode b_AL_remove 16 = .ok (.aaload, 1) := by decide +kernel
theorem d_AL_remove_17 : decode b_AL_remove 17 = .ok (.astore_n 3, 1) := by decide +kernel
theorem d_AL_remove_18 : decode b_AL_remove 18 = .ok (.aload_n 0, 1) := by decide +kernel
theorem d_AL_remove_19 : decode b_AL_remove 19 = .ok (.aload_n 2, 1) := by decide +kernel
theorem d_AL_remove_20 : decode b_AL_remove 20 = .ok (.iload_n 1, 1) := by decide +kernel
theorem d_AL_remove_21 : decode b_AL_remove 21 = .ok (.invokevirtual 144, 3) := by decide +kernel
theorem d_AL_remove_24 : decode b_AL_remove 24 = .ok (.aload_n 3, 1) := by decide +kernel
theorem d_AL_remove_25 : decode b_AL_remove 25 = .ok (.areturn, 1) := by decide +kernel
theorem d_AL_fastRemove_0 : decode b_AL_fastRemove 0 = .ok (.aload_n 0, 1) := by decide +kernel
theorem d_AL_fastRemove_1 : decode b_AL_fastRemove 1 = .ok (.dup, 1) := by decide +kernel
theorem d_AL_fastRemove_2 : decode b_AL_fastRemove 2 = .ok (.getfield 63, 3) := by decide +kernel
theorem d_AL_fastRemove_5 : decode b_AL_fastRemove 5 = .ok (.iconst 1, 1) := by decide +kernel
theorem d_AL_fastRemove_6 : decode b_AL_fastRemove 6 = .ok (.iadd, 1) := by decide +kernel
theorem d_AL_fastRemove_7 : decode b_AL_fastRemove 7 = .ok (.putfield 63, 3) := by decide +kernel
theorem d_AL_fastRemove_10 : decode b_AL_fastRemove 10 = .ok (.aload_n 0, 1) := by decide +kernel
theorem d_AL_fastRemove_11 : decode b_AL_fastRemove 11 = .ok (.getfield 48, 3) := by decide +kernel
theorem d_AL_fastRemove_14 : decode b_AL_fastRemove 14 = .ok (.iconst 1, 1) := by decide +kernel
theorem d_AL_fastRemove_15 : decode b_AL_fastRemove 15 = .ok (.isub, 1) := by decide +kernel
theorem d_AL_fastRemove_16 : decode b_AL_fastRemove 16 = .ok (.dup, 1) := by decide +kernel
theorem d_AL_fastRemove_17 : decode b_AL_fastRemove 17 = .ok (.istore_n 3, 1) := by decide +kernel
theorem d_AL_fastRemove_18 : decode b_AL_fastRemove 18 = .ok (.iload_n 2, 1) := by decide +kernel
theorem d_AL_fastRemove_19 : decode b_AL_fastRemove 19 = .ok (.if_icmp .le 15, 3) := by decide +kernel
theorem d_AL_fastRemove_22 : decode b_AL_fastRemove 22 = .ok (.aload_n 1, 1) := by decide +kernel
theorem d_AL_fastRemove_23 : decode b_AL_fastRemove 23 = .ok (.iload_n 2, 1) := by decide +kernel
theorem d_AL_fastRemove_24 : decode b_AL_fastRemove 24 = .ok (.iconst 1, 1) := by decide +kernel
theorem d_AL_fastRemove_25 : decode b_AL_fastRemove 25 = .ok (.iadd, 1) := by decide +kernel
theorem d_AL_fastRemove_26 : decode b_AL_fastRemove 26 = .ok (.aload_n 1, 1) := by decide +kernel
theorem d_AL_fastRemove_27 : decode b_AL_fastRemove 27 = .ok (.iload_n 2, 1) := by decide +kernel
theorem d_AL_fastRemove_28 : decode b_AL_fastRemove 28 = .ok (.iload_n 3, 1) := by decide +kernel
theorem d_AL_fastRemove_29 : decode b_AL_fastRemove 29 = .ok (.iload_n 2, 1) := by decide +kernel
theorem d_AL_fastRemove_30 : decode b_AL_fastRemove 30 = .ok (.isub, 1) := by decide +kernel
theorem d_AL_fastRemove_31 : decode b_AL_fastRemove 31 = .ok (.invokestatic 112, 3) := by decide +kernel
theorem d_AL_fastRemove_34 : decode b_AL_fastRemove 34 = .ok (.aload_n 1, 1) := by decide +kernel
theorem d_AL_fastRemove_35 : decode b_AL_fastRemove 35 = .ok (.aload_n 0, 1) := by decide +kernel
theorem d_AL_fastRemove_36 : decode b_AL_fastRemove 36 = .ok (.iload_n 3, 1) := by decide +kernel
theorem d_AL_fastRemove_37 : decode b_AL_fastRemove 37 = .ok (.dup_x1, 1) := by decide +kernel
theorem d_AL_fastRemove_38 : decode b_AL_fastRemove 38 = .ok (.putfield 48, 3) := by decide +kernel
theorem d_AL_fastRemove_41 : decode b_AL_fastRemove 41 = .ok (.aconst_null, 1) := by decide +kernel
theorem d_AL_fastRemove_42 : decode b_AL_fastRemove 42 = .ok (.aastore, 1) := by decide +kernel
theorem d_AL_fastRemove_43 : decode b_AL_fastRemove 43 = .ok (.return_, 1) := by decide +kernel
theorem d_T_init_0 : decode b_T_init 0 = .ok (.aload_n 0, 1) := by decide +kernel
theorem d_T_init_1 : decode b_T_init 1 = .ok (.invokespecial 3, 3) := by decide +kernel
theorem d_T_init_4 : decode b_T_init 4 = .ok (.aload_n 0, 1) := by decide +kernel
theorem d_T_init_5 : decode b_T_init 5 = .ok (.iload_n 2, 1) := by decide +kernel
theorem d_T_init_6 : decode b_T_init 6 = .ok (.putfield 9, 3) := by decide +kernel
theorem d_T_init_9 : decode b_T_init 9 = .ok (.aload_n 0, 1) := by decide +kernel
theorem d_T_init_10 : decode b_T_init 10 = .ok (.bipush 6, 2) := by decide +kernel
theorem d_T_init_12 : decode b_T_init 12 = .ok (.anewarray 15, 3) := by decide +kernel
theorem d_T_init_15 : decode b_T_init 15 = .ok (.putfield 17, 3) := by decide +kernel
theorem d_T_init_18 : decode b_T_init 18 = .ok (.iconst 0, 1) := by decide +kernel
theorem d_T_init_19 : decode b_T_init 19 = .ok (.istore 4, 2) := by decide +kernel
theorem d_T_init_21 : decode b_T_init 21 = .ok (.iload 4, 2) := by decide +kernel
theorem d_T_init_23 : decode b_T_init 23 = .ok (.bipush 6, 2) := by decide +kernel
theorem d_T_init_25 : decode b_T_init 25 = .ok (.if_icmp .ge 24, 3) := by decide +kernel
theorem d_T_init_28 : decode b_T_init 28 = .ok (.aload_n 0, 1) := by decide +kernel
theorem d_T_init_29 : decode b_T_init 29 = .ok (.getfield 17, 3) := by decide +kernel
theorem d_T_init_32 : decode b_T_init 32 = .ok (.iload 4, 2) := by decide +kernel
theorem d_T_init_34 : decode b_T_init 34 = .ok (.new 15, 3) := by decide +kernel
theorem d_T_init_37 : decode b_T_init 37 = .ok (.dup, 1) := by decide +kernel
theorem d_T_init_38 : decode b_T_init 38 = .ok (.aload_n 3, 1) := by decide +kernel
theorem d_T_init_39 : decode b_T_init 39 = .ok (.invokespecial 21, 3) := by decide +kernel
theorem d_T_init_42 : decode b_T_init 42 = .ok (.aastore, 1) := by decide +kernel
theorem d_T_init_43 : decode b_T_init 43 = .ok (.iinc 4 1, 3) := by decide +kernel
theorem d_T_init_46 : decode b_T_init 46 = .ok (.goto (-25), 3) := by decide +kernel
theorem d_T_init_49 : decode b_T_init 49 = .ok (.aload_n 0, 1) := by decide +kernel
theorem d_T_init_50 : decode b_T_init 50 = .ok (.getfield 17, 3) := by decide +kernel
theorem d_T_init_53 : decode b_T_init 53 = .ok (.iconst 0, 1) := by decide +kernel
theorem d_T_init_54 : decode b_T_init 54 = .ok (.aaload, 1) := by decide +kernel
theorem d_T_init_55 : decode b_T_init 55 = .ok (.iload_n 1, 1) := by decide +kernel
theorem d_T_init_56 : decode b_T_init 56 = .ok (.iload_n 2, 1) := by decide +kernel
theorem d_T_init_57 : decode b_T_init 57 = .ok (.aload_n 3, 1) := by decide +kernel
theorem d_T_init_58 : decode b_T_init 58 = .ok (.invokevirtual 24, 3) := by decide +kernel
theorem d_T_init_61 : decode b_T_init 61 = .ok (.aload_n 0, 1) := by decide +kernel
theorem d_T_init_62 : decode b_T_init 62 = .ok (.iconst 1, 1) := by decide +kernel
theorem d_T_init_63 : decode b_T_init 63 = .ok (.putfield 28, 3) := by decide +kernel
theorem d_T_init_66 : decode b_T_init 66 = .ok (.return_, 1) := by decide +kernel
theorem d_Fr_init_0 : decode b_Fr_init 0 = .ok (.aload_n 0, 1) := by decide +kernel
theorem d_Fr_init_1 : decode b_Fr_init 1 = .ok (.invokespecial 3, 3) := by decide +kernel
theorem d_Fr_init_4 : decode b_Fr_init 4 = .ok (.aload_n 0, 1) := by decide +kernel
theorem d_Fr_init_5 : decode b_Fr_init 5 = .ok (.aload_n 1, 1) := by decide +kernel
theorem d_Fr_init_6 : decode b_Fr_init 6 = .ok (.putfield 9, 3) := by decide +kernel
theorem d_Fr_init_9 : decode b_Fr_init 9 = .ok (.return_, 1) := by decide +kernel
theorem d_Fr_begin_0 : decode b_Fr_begin 0 = .ok (.aload_n 0, 1) := by decide +kernel
theorem d_Fr_begin_1 : decode b_Fr_begin 1 = .ok (.iload_n 1, 1) := by decide +kernel
theorem d_Fr_begin_2 : decode b_Fr_begin 2 = .ok (.putfield 15, 3) := by decide +kernel
theorem d_Fr_begin_5 : decode b_Fr_begin 5 = .ok (.aload_n 0, 1) := by decide +kernel
theorem d_Fr_begin_6 : decode b_Fr_begin 6 = .ok (.iload_n 2, 1) := by decide +kernel
theorem d_Fr_begin_7 : decode b_Fr_begin 7 = .ok (.putfield 19, 3) := by decide +kernel
theorem d_Fr_begin_10 : decode b_Fr_begin 10 = .ok (.aload_n 0, 1) := by decide +kernel
theorem d_Fr_begin_11 : decode b_Fr_begin 11 = .ok (.aload_n 3, 1) := by decide +kernel
theorem d_Fr_begin_12 : decode b_Fr_begin 12 = .ok (.putfield 9, 3) := by decide +kernel
theorem d_Fr_begin_15 : decode b_Fr_begin 15 = .ok (.aload_n 0, 1) := by decide +kernel
theorem d_Fr_begin_16 : decode b_Fr_begin 16 = .ok (.iconst 0, 1) := by decide +kernel
theorem d_Fr_begin_17 : decode b_Fr_begin 17 = .ok (.putfield 22, 3) := by decide +kernel
theorem d_Fr_begin_20 : decode b_Fr_begin 20 = .ok (.aload_n 0, 1) := by decide +kernel
theorem d_Fr_begin_21 : decode b_Fr_begin 21 = .ok (.iconst 0, 1) := by decide +kernel
theorem d_Fr_begin_22 : decode b_Fr_begin 22 = .ok (.putfield 25, 3) := by decide +kernel
theorem d_Fr_begin_25 : decode b_Fr_begin 25 = .ok (.return_, 1) := by decide +kernel
theorem d_T_top_0 : decode b_T_top 0 = .ok (.aload_n 0, 1) := by decide +kernel
theorem d_T_top_1 : decode b_T_top 1 = .ok (.getfield 17, 3) := by decide +kernel
theorem d_T_top_4 : decode b_T_top 4 = .ok (.aload_n 0, 1) := by decide +kernel
theorem d_T_top_5 : decode b_T_top 5 = .ok (.getfield 28, 3) := by decide +kernel
theorem d_T_top_8 : decode b_T_top 8 = .ok (.iconst 1, 1) := by decide +kernel
theorem d_T_top_9 : decode b_T_top 9 = .ok (.isub, 1) := by decide +kernel
theorem d_T_top_10 : decode b_T_top 10 = .ok (.aaload, 1) := by decide +kernel
theorem d_T_top_11 : decode b_T_top 11 = .ok (.areturn, 1) := by decide +kernel
theorem d_Fr_nextKind_0 : decode b_Fr_nextKind 0 = .ok (.aload_n 0, 1) := by decide +kernel
theorem d_Fr_nextKind_1 : decode b_Fr_nextKind 1 = .ok (.getfield 22, 3) := by decide +kernel
theorem d_Fr_nextKind_4 : decode b_Fr_nextKind 4 = .ok (.aload_n 0, 1) := by decide +kernel
theorem d_Fr_nextKind_5 : decode b_Fr_nextKind 5 = .ok (.getfield 9, 3) := by decide +kernel
theorem d_Fr_nextKind_8 : decode b_Fr_nextKind 8 = .ok (.getfield 28, 3) := by decide +kernel
theorem d_Fr_nextKind_11 : decode b_Fr_nextKind 11 = .ok (.if_icmp .ge 18, 3) := by decide +kernel
theorem d_Fr_nextKind_14 : decode b_Fr_nextKind 14 = .ok (.aload_n 0, 1) := by decide +kernel
theorem d_Fr_nextKind_15 : decode b_Fr_nextKind 15 = .ok (.getfield 9, 3) := by decide +kernel
theorem d_Fr_nextKind_18 : decode b_Fr_nextKind 18 = .ok (.getfield 33, 3) := by decide +kernel
theorem d_Fr_nextKind_21 : decode b_Fr_nextKind 21 = .ok (.aload_n 0, 1) := by decide +kernel
theorem d_Fr_nextKind_22 : decode b_Fr_nextKind 22 = .ok (.getfield 22, 3) := by decide +kernel
theorem d_Fr_nextKind_25 : decode b_Fr_nextKind 25 = .ok (.iaload, 1) := by decide +kernel
theorem d_Fr_nextKind_26 : decode b_Fr_nextKind 26 = .ok (.goto 4, 3) := by decide +kernel
theorem d_Fr_nextKind_29 : decode b_Fr_nextKind 29 = .ok (.iconst (-1), 1) := by decide +kernel
theorem d_Fr_nextKind_30 : decode b_Fr_nextKind 30 = .ok (.ireturn, 1) := by decide +kernel
theorem d_Fr_nextNumber_0 : decode b_Fr_nextNumber 0 = .ok (.aload_n 0, 1) := by decide +kernel
theorem d_Fr_nextNumber_1 : decode b_Fr_nextNumber 1 = .ok (.getfield 22, 3) := by decide +kernel
theorem d_Fr_nextNumber_4 : decode b_Fr_nextNumber 4 = .ok (.aload_n 0, 1) := by decide +kernel
theorem d_Fr_nextNumber_5 : decode b_Fr_nextNumber 5 = .ok (.getfield 9, 3) := by decide +kernel
theorem d_Fr_nextNumber_8 : decode b_Fr_nextNumber 8 = .ok (.getfield 28, 3) := by decide +kernel
theorem d_Fr_nextNumber_11 : decode b_Fr_nextNumber 11 = .ok (.if_icmp .ge 18, 3) := by decide +kernel
theorem d_Fr_nextNumber_14 : decode b_Fr_nextNumber 14 = .ok (.aload_n 0, 1) := by decide +kernel
theorem d_Fr_nextNumber_15 : decode b_Fr_nextNumber 15 = .ok (.getfield 9, 3) := by decide +kernel
theorem d_Fr_nextNumber_18 : decode b_Fr_nextNumber 18 = .ok (.getfield 37, 3) := by decide +kernel
theorem d_Fr_nextNumber_21 : decode b_Fr_nextNumber 21 = .ok (.aload_n 0, 1) := by decide +kernel
theorem d_Fr_nextNumber_22 : decode b_Fr_nextNumber 22 = .ok (.getfield 22, 3) := by decide +kernel
theorem d_Fr_nextNumber_25 : decode b_Fr_nextNumber 25 = .ok (.iaload, 1) := by decide +kernel
theorem d_Fr_nextNumber_26 : decode b_Fr_nextNumber 26 = .ok (.goto 4, 3) := by decide +kernel
theorem d_Fr_nextNumber_29 : decode b_Fr_nextNumber 29 = .ok (.iconst 0, 1) := by decide +kernel
theorem d_Fr_nextNumber_30 : decode b_Fr_nextNumber 30 = .ok (.ireturn, 1) := by decide +kernel
theorem d_Fr_repeatFrom_0 : decode b_Fr_repeatFrom 0 = .ok (.aload_n 0, 1) := by decide +kernel
theorem d_Fr_repeatFrom_1 : decode b_Fr_repeatFrom 1 = .ok (.getfield 25, 3) := by decide +kernel
theorem d_Fr_repeatFrom_4 : decode b_Fr_repeatFrom 4 = .ok (.iconst 3, 1) := by decide +kernel
theorem d_Fr_repeatFrom_5 : decode b_Fr_repeatFrom 5 = .ok (.if_icmp .ge 18, 3) := by decide +kernel
theorem d_Fr_repeatFrom_8 : decode b_Fr_repeatFrom 8 = .ok (.aload_n 0, 1) := by decide +kernel
theorem d_Fr_repeatFrom_9 : decode b_Fr_repeatFrom 9 = .ok (.dup, 1) := by decide +kernel
theorem d_Fr_repeatFrom_10 : decode b_Fr_repeatFrom 10 = .ok (.getfield 25, 3) := by decide +kernel
theorem d_Fr_repeatFrom_13 : decode b_Fr_repeatFrom 13 = .ok (.iconst 1, 1) := by decide +kernel
theorem d_Fr_repeatFrom_14 : decode b_Fr_repeatFrom 14 = .ok (.iadd, 1) := by decide +kernel
theorem d_Fr_repeatFrom_15 : decode b_Fr_repeatFrom 15 = .ok (.putfield 25, 3) := by decide +kernel
theorem d_Fr_repeatFrom_18 : decode b_Fr_repeatFrom 18 = .ok (.aload_n 0, 1) := by decide +kernel
theorem d_Fr_repeatFrom_19 : decode b_Fr_repeatFrom 19 = .ok (.iload_n 1, 1) := by decide +kernel
theorem d_Fr_repeatFrom_20 : decode b_Fr_repeatFrom 20 = .ok (.putfield 22, 3) := by decide +kernel
theorem d_Fr_repeatFrom_23 : decode b_Fr_repeatFrom 23 = .ok (.return_, 1) := by decide +kernel
theorem d_T_putOut_0 : decode b_T_putOut 0 = .ok (.aload_n 0, 1) := by decide +kernel
theorem d_T_putOut_1 : decode b_T_putOut 1 = .ok (.dup, 1) := by decide +kernel
theorem d_T_putOut_2 : decode b_T_putOut 2 = .ok (.getfield 31, 3) := by decide +kernel
theorem d_T_putOut_5 : decode b_T_putOut 5 = .ok (.iconst 1, 1) := by decide +kernel
theorem d_T_putOut_6 : decode b_T_putOut 6 = .ok (.iadd, 1) := by decide +kernel
theorem d_T_putOut_7 : decode b_T_putOut 7 = .ok (.putfield 31, 3) := by decide +kernel
theorem d_T_putOut_10 : decode b_T_putOut 10 = .ok (.aload_n 0, 1) := by decide +kernel
theorem d_T_putOut_11 : decode b_T_putOut 11 = .ok (.aload_n 0, 1) := by decide +kernel
theorem d_T_putOut_12 : decode b_T_putOut 12 = .ok (.getfield 34, 3) := by decide +kernel
theorem d_T_putOut_15 : decode b_T_putOut 15 = .ok (.putfield 37, 3) := by decide +kernel
theorem d_T_putOut_18 : decode b_T_putOut 18 = .ok (.return_, 1) := by decide +kernel
theorem d_ABC_init_0 : decode b_ABC_init 0 = .ok (.aload_n 0, 1) := by decide +kernel
theorem d_ABC_init_1 : decode b_ABC_init 1 = .ok (.invokespecial 1, 3) := by decide +kernel
theorem d_ABC_init_4 : decode b_ABC_init 4 = .ok (.return_, 1) := by decide +kernel
end
section
theorem d_D_init_0 : decode b_D_init 0 = .ok (.aload_n 0, 1) := by decide +kernel
theorem d_D_init_1 : decode b_D_init 1 = .ok (.invokespecial 1, 3) := by decide +kernel
theorem d_D_init_4 : decode b_D_init 4 = .ok (.aload_n 0, 1) := by decide +kernel
theorem d_D_init_5 : decode b_D_init 5 = .ok (.new 7, 3) := by decide +kernel
theorem d_D_init_8 : decode b_D_init 8 = .ok (.dup, 1) := by decide +kernel
theorem d_D_init_9 : decode b_D_init 9 = .ok (.invokespecial 9, 3) := by decide +kernel
theorem d_D_init_12 : decode b_D_init 12 = .ok (.putfield 10, 3) := by decide +kernel
theorem d_D_init_15 : decode b_D_init 15 = .ok (.aload_n 0, 1) := by decide +kernel
theorem d_D_init_16 : decode b_D_init 16 = .ok (.new 7, 3) := by decide +kernel
theorem d_D_init_19 : decode b_D_init 19 = .ok (.dup, 1) := by decide +kernel
theorem d_D_init_20 : decode b_D_init 20 = .ok (.invokespecial 9, 3) := by decide +kernel
theorem d_D_init_23 : decode b_D_init 23 = .ok (.putfield 16, 3) := by decide +kernel
theorem d_D_init_26 : decode b_D_init 26 = .ok (.aload_n 0, 1) := by decide +kernel
theorem d_D_init_27 : decode b_D_init 27 = .ok (.new 7, 3) := by decide +kernel
theorem d_D_init_30 : decode b_D_init 30 = .ok (.dup, 1) := by decide +kernel
theorem d_D_init_31 : decode b_D_init 31 = .ok (.invokespecial 9, 3) := by decide +kernel
theorem d_D_init_34 : decode b_D_init 34 = .ok (.putfield 19, 3) := by decide +kernel
theorem d_D_init_37 : decode b_D_init 37 = .ok (.aload_n 0, 1) := by decide +kernel
theorem d_D_init_38 : decode b_D_init 38 = .ok (.new 22, 3) := by decide +kernel
theorem d_D_init_41 : decode b_D_init 41 = .ok (.dup, 1) := by decide +kernel
theorem d_D_init_42 : decode b_D_init 42 = .ok (.invokespecial 24, 3) := by decide +kernel
theorem d_D_init_45 : decode b_D_init 45 = .ok (.putfield 25, 3) := by decide +kernel
theorem d_D_init_48 : decode b_D_init 48 = .ok (.aload_n 0, 1) := by decide +kernel
theorem d_D_init_49 : decode b_D_init 49 = .ok (.iconst (-1), 1) := by decide +kernel
theorem d_D_init_50 : decode b_D_init 50 = .ok (.putfield 29, 3) := by decide +kernel
theorem d_D_init_53 : decode b_D_init 53 = .ok (.return_, 1) := by decide +kernel
theorem d_D_patches_0 : decode b_D_patches 0 = .ok (.aload_n 0, 1) := by decide +kernel
theorem d_D_patches_1 : decode b_D_patches 1 = .ok (.getfield 16, 3) := by decide +kernel
theorem d_D_patches_4 : decode b_D_patches 4 = .ok (.invokevirtual 44, 3) := by decide +kernel
theorem d_D_patches_7 : decode b_D_patches 7 = .ok (.ireturn, 1) := by decide +kernel
theorem d_D_target_0 : decode b_D_target 0 = .ok (.aload_n 0, 1) := by decide +kernel
theorem d_D_target_1 : decode b_D_target 1 = .ok (.getfield 29, 3) := by decide +kernel
theorem d_D_target_4 : decode b_D_target 4 = .ok (.ireturn, 1) := by decide +kernel
theorem d_D_function_0 : decode b_D_function 0 = .ok (.iload_n 1, 1) := by decide +kernel
theorem d_D_function_1 : decode b_D_function 1 = .ok (.invokestatic 33, 3) := by decide +kernel
theorem d_D_function_4 : decode b_D_function 4 = .ok (.ifCond .ne 13, 3) := by decide +kernel
theorem d_D_function_7 : decode b_D_function 7 = .ok (.new 37, 3) := by decide +kernel
theorem d_D_function_10 : decode b_D_function 10 = .ok (.dup, 1) := by decide +kernel
theorem d_D_function_11 : decode b_D_function 11 = .ok (.ldc 39, 2) := by decide +kernel
theorem d_D_function_13 : decode b_D_function 13 = .ok (.invokespecial 41, 3) := by decide +kernel
theorem d_D_function_16 : decode b_D_function 16 = .ok (.athrow, 1) := by decide +kernel
theorem d_D_function_17 : decode b_D_function 17 = .ok (.aload_n 0, 1) := by decide +kernel
theorem d_D_function_18 : decode b_D_function 18 = .ok (.getfield 10, 3) := by decide +kernel
theorem d_D_function_21 : decode b_D_function 21 = .ok (.invokevirtual 44, 3) := by decide +kernel
theorem d_D_function_24 : decode b_D_function 24 = .ok (.bipush 8, 2) := by decide +kernel
theorem d_D_function_26 : decode b_D_function 26 = .ok (.if_icmp .ge 10, 3) := by decide +kernel
theorem d_D_function_29 : decode b_D_function 29 = .ok (.aload_n 0, 1) := by decide +kernel
theorem d_D_function_30 : decode b_D_function 30 = .ok (.invokevirtual 48, 3) := by decide +kernel
theorem d_D_function_33 : decode b_D_function 33 = .ok (.ifCond .eq 13, 3) := by decide +kernel
theorem d_D_function_36 : decode b_D_function 36 = .ok (.new 52, 3) := by decide +kernel
theorem d_D_function_39 : decode b_D_function 39 = .ok (.dup, 1) := by decide +kernel
theorem d_D_function_40 : decode b_D_function 40 = .ok (.ldc 54, 2) := by decide +kernel
theorem d_D_function_42 : decode b_D_function 42 = .ok (.invokespecial 56, 3) := by decide +kernel
theorem d_D_function_45 : decode b_D_function 45 = .ok (.athrow, 1) := by decide +kernel
theorem d_D_function_46 : decode b_D_function 46 = .ok (.aload_n 0, 1) := by decide +kernel
theorem d_D_function_47 : decode b_D_function 47 = .ok (.getfield 10, 3) := by decide +kernel
theorem d_D_function_50 : decode b_D_function 50 = .ok (.new 57, 3) := by decide +kernel
theorem d_D_function_53 : decode b_D_function 53 = .ok (.dup, 1) := by decide +kernel
theorem d_D_function_54 : decode b_D_function 54 = .ok (.iload_n 1, 1) := by decide +kernel
theorem d_D_function_55 : decode b_D_function 55 = .ok (.invokespecial 59, 3) := by decide +kernel
theorem d_D_function_58 : decode b_D_function 58 = .ok (.invokevirtual 62, 3) := by decide +kernel
theorem d_D_function_61 : decode b_D_function 61 = .ok (.pop, 1) := by decide +kernel
theorem d_D_function_62 : decode b_D_function 62 = .ok (.aload_n 0, 1) := by decide +kernel
theorem d_D_function_63 : decode b_D_function 63 = .ok (.getfield 10, 3) := by decide +kernel
theorem d_D_function_66 : decode b_D_function 66 = .ok (.invokevirtual 44, 3) := by decide +kernel
theorem d_D_function_69 : decode b_D_function 69 = .ok (.iconst 1, 1) := by decide +kernel
theorem d_D_function_70 : decode b_D_function 70 = .ok (.isub, 1) := by decide +kernel
theorem d_D_function_71 : decode b_D_function 71 = .ok (.ireturn, 1) := by decide +kernel
theorem d_D_isSignature_0 : decode b_D_isSignature 0 = .ok (.iload_n 0, 1) := by decide +kernel
theorem d_D_isSignature_1 : decode b_D_isSignature 1 = .ok (.ifCond .lt 13, 3) := by decide +kernel
theorem d_D_isSignature_4 : decode b_D_isSignature 4 = .ok (.iload_n 0, 1) := by decide +kernel
theorem d_D_isSignature_5 : decode b_D_isSignature 5 = .ok (.bipush 9, 2) := by decide +kernel
theorem d_D_isSignature_7 : decode b_D_isSignature 7 = .ok (.if_icmp .gt 7, 3) := by decide +kernel
theorem d_D_isSignature_10 : decode b_D_isSignature 10 = .ok (.iconst 1, 1) := by decide +kernel
theorem d_D_isSignature_11 : decode b_D_isSignature 11 = .ok (.goto 4, 3) := by decide +kernel
theorem d_D_isSignature_14 : decode b_D_isSignature 14 = .ok (.iconst 0, 1) := by decide +kernel
theorem d_D_isSignature_15 : decode b_D_isSignature 15 = .ok (.ireturn, 1) := by decide +kernel
theorem d_D_isInUse_0 : decode b_D_isInUse 0 = .ok (.aload_n 0, 1) := by decide +kernel
theorem d_D_isInUse_1 : decode b_D_isInUse 1 = .ok (.getfield 19, 3) := by decide +kernel
theorem d_D_isInUse_4 : decode b_D_isInUse 4 = .ok (.invokevirtual 200, 3) := by decide +kernel
theorem d_D_isInUse_7 : decode b_D_isInUse 7 = .ok (.ifCond .eq 13, 3) := by decide +kernel
theorem d_D_isInUse_10 : decode b_D_isInUse 10 = .ok (.aload_n 0, 1) := by decide +kernel
theorem d_D_isInUse_11 : decode b_D_isInUse 11 = .ok (.getfield 16, 3) := by decide +kernel
theorem d_D_isInUse_14 : decode b_D_isInUse 14 = .ok (.invokevirtual 200, 3) := by decide +kernel
theorem d_D_isInUse_17 : decode b_D_isInUse 17 = .ok (.ifCond .ne 7, 3) := by decide +kernel
theorem d_D_isInUse_20 : decode b_D_isInUse 20 = .ok (.iconst 1, 1) := by decide +kernel
theorem d_D_isInUse_21 : decode b_D_isInUse 21 = .ok (.goto 4, 3) := by decide +kernel
theorem d_D_isInUse_24 : decode b_D_isInUse 24 = .ok (.iconst 0, 1) := by decide +kernel
theorem d_D_isInUse_25 : decode b_D_isInUse 25 = .ok (.ireturn, 1) := by decide +kernel
theorem d_D_operation_0 : decode b_D_operation 0 = .ok (.aload_n 0, 1) := by decide +kernel
theorem d_D_operation_1 : decode b_D_operation 1 = .ok (.iload_n 1, 1) := by decide +kernel
theorem d_D_operation_2 : decode b_D_operation 2 = .ok (.invokevirtual 66, 3) := by decide +kernel
theorem d_D_operation_5 : decode b_D_operation 5 = .ok (.ifCond .eq 18, 3) := by decide +kernel
theorem d_D_operation_8 : decode b_D_operation 8 = .ok (.iload_n 2, 1) := by decide +kernel
theorem d_D_operation_9 : decode b_D_operation 9 = .ok (.ifCond .eq 24, 3) := by decide +kernel
theorem d_D_operation_12 : decode b_D_operation 12 = .ok (.aload_n 0, 1) := by decide +kernel
theorem d_D_operation_13 : decode b_D_operation 13 = .ok (.getfield 25, 3) := by decide +kernel
theorem d_D_operation_16 : decode b_D_operation 16 = .ok (.iload_n 1, 1) := by decide +kernel
theorem d_D_operation_17 : decode b_D_operation 17 = .ok (.invokevirtual 69, 3) := by decide +kernel
theorem d_D_operation_20 : decode b_D_operation 20 = .ok (.ifCond .ne 13, 3) := by decide +kernel
theorem d_D_operation_23 : decode b_D_operation 23 = .ok (.new 37, 3) := by decide +kernel
theorem d_D_operation_26 : decode b_D_operation 26 = .ok (.dup, 1) := by decide +kernel
theorem d_D_operation_27 : decode b_D_operation 27 = .ok (.ldc 72, 2) := by decide +kernel
theorem d_D_operation_29 : decode b_D_operation 29 = .ok (.invokespecial 41, 3) := by decide +kernel
theorem d_D_operation_32 : decode b_D_operation 32 = .ok (.athrow, 1) := by decide +kernel
theorem d_D_operation_33 : decode b_D_operation 33 = .ok (.iload_n 2, 1) := by decide +kernel
theorem d_D_operation_34 : decode b_D_operation 34 = .ok (.ifCond .eq 15, 3) := by decide +kernel
theorem d_D_operation_37 : decode b_D_operation 37 = .ok (.aload_n 0, 1) := by decide +kernel
theorem d_D_operation_38 : decode b_D_operation 38 = .ok (.getfield 25, 3) := by decide +kernel
theorem d_D_operation_41 : decode b_D_operation 41 = .ok (.getfield 74, 3) := by decide +kernel
theorem d_D_operation_44 : decode b_D_operation 44 = .ok (.iload_n 1, 1) := by decide +kernel
theorem d_D_operation_45 : decode b_D_operation 45 = .ok (.aaload, 1) := by decide +kernel
theorem d_D_operation_46 : decode b_D_operation 46 = .ok (.goto 17, 3) := by decide +kernel
theorem d_D_operation_49 : decode b_D_operation 49 = .ok (.aload_n 0, 1) := by decide +kernel
theorem d_D_operation_50 : decode b_D_operation 50 = .ok (.getfield 10, 3) := by decide +kernel
theorem d_D_operation_53 : decode b_D_operation 53 = .ok (.iload_n 1, 1) := by decide +kernel
theorem d_D_operation_54 : decode b_D_operation 54 = .ok (.invokevirtual 78, 3) := by decide +kernel
theorem d_D_operation_57 : decode b_D_operation 57 = .ok (.checkcast 57, 3) := by decide +kernel
theorem d_D_operation_60 : decode b_D_operation 60 = .ok (.getfield 82, 3) := by decide +kernel
theorem d_D_operation_63 : decode b_D_operation 63 = .ok (.astore 5, 2) := by decide +kernel
theorem d_D_operation_65 : decode b_D_operation 65 = .ok (.aload_n 0, 1) := by decide +kernel
theorem d_D_operation_66 : decode b_D_operation 66 = .ok (.iload_n 3, 1) := by decide +kernel
theorem d_D_operation_67 : decode b_D_operation 67 = .ok (.iload 4, 2) := by decide +kernel
theorem d_D_operation_69 : decode b_D_operation 69 = .ok (.aload 5, 2) := by decide +kernel
theorem d_D_operation_71 : decode b_D_operation 71 = .ok (.getfield 86, 3) := by decide +kernel
theorem d_D_operation_74 : decode b_D_operation 74 = .ok (.invokevirtual 90, 3) := by decide +kernel
theorem d_D_operation_77 : decode b_D_operation 77 = .ok (.ifCond .ne 13, 3) := by decide +kernel
theorem d_D_operation_80 : decode b_D_operation 80 = .ok (.new 37, 3) := by decide +kernel
theorem d_D_operation_83 : decode b_D_operation 83 = .ok (.dup, 1) := by decide +kernel
theorem d_D_operation_84 : decode b_D_operation 84 = .ok (.ldc 94, 2) := by decide +kernel
theorem d_D_operation_86 : decode b_D_operation 86 = .ok (.invokespecial 41, 3) := by decide +kernel
theorem d_D_operation_89 : decode b_D_operation 89 = .ok (.athrow, 1) := by decide +kernel
theorem d_D_operation_90 : decode b_D_operation 90 = .ok (.iload_n 2, 1) := by decide +kernel
theorem d_D_operation_91 : decode b_D_operation 91 = .ok (.ifCond .ne 10, 3) := by decide +kernel
theorem d_D_operation_94 : decode b_D_operation 94 = .ok (.aload_n 0, 1) := by decide +kernel
theorem d_D_operation_95 : decode b_D_operation 95 = .ok (.invokevirtual 48, 3) := by decide +kernel
theorem d_D_operation_98 : decode b_D_operation 98 = .ok (.ifCond .ne 11, 3) := by decide +kernel
theorem d_D_operation_101 : decode b_D_operation 101 = .ok (.aload 5, 2) := by decide +kernel
theorem d_D_operation_103 : decode b_D_operation 103 = .ok (.invokevirtual 96, 3) := by decide +kernel
theorem d_D_operation_106 : decode b_D_operation 106 = .ok (.ifCond .eq 13, 3) := by decide +kernel
theorem d_D_operation_109 : decode b_D_operation 109 = .ok (.new 52, 3) := by decide +kernel
theorem d_D_operation_112 : decode b_D_operation 112 = .ok (.dup, 1) := by decide +kernel
theorem d_D_operation_113 : decode b_D_operation 113 = .ok (.ldc 99, 2) := by decide +kernel
theorem d_D_operation_115 : decode b_D_operation 115 = .ok (.invokespecial 56, 3) := by decide +kernel
theorem d_D_operation_118 : decode b_D_operation 118 = .ok (.athrow, 1) := by decide +kernel
theorem d_D_operation_119 : decode b_D_operation 119 = .ok (.aload 5, 2) := by decide +kernel
theorem d_D_operation_121 : decode b_D_operation 121 = .ok (.iload_n 3, 1) := by decide +kernel
theorem d_D_operation_122 : decode b_D_operation 122 = .ok (.iload 4, 2) := by decide +kernel
theorem d_D_operation_124 : decode b_D_operation 124 = .ok (.invokevirtual 101, 3) := by decide +kernel
theorem d_D_operation_127 : decode b_D_operation 127 = .ok (.aload 5, 2) := by decide +kernel
theorem d_D_operation_129 : decode b_D_operation 129 = .ok (.getfield 86, 3) := by decide +kernel
theorem d_D_operation_132 : decode b_D_operation 132 = .ok (.ireturn, 1) := by decide +kernel
theorem d_D_isFunction_0 : decode b_D_isFunction 0 = .ok (.iload_n 1, 1) := by decide +kernel
theorem d_D_isFunction_1 : decode b_D_isFunction 1 = .ok (.ifCond .lt 18, 3) := by decide +kernel
theorem d_D_isFunction_4 : decode b_D_isFunction 4 = .ok (.iload_n 1, 1) := by decide +kernel
theorem d_D_isFunction_5 : decode b_D_isFunction 5 = .ok (.aload_n 0, 1) := by decide +kernel
theorem d_D_isFunction_6 : decode b_D_isFunction 6 = .ok (.getfield 10, 3) := by decide +kernel
theorem d_D_isFunction_9 : decode b_D_isFunction 9 = .ok (.invokevirtual 44, 3) := by decide +kernel
theorem d_D_isFunction_12 : decode b_D_isFunction 12 = .ok (.if_icmp .ge 7, 3) := by decide +kernel
theorem d_D_isFunction_15 : decode b_D_isFunction 15 = .ok (.iconst 1, 1) := by decide +kernel
theorem d_D_isFunction_16 : decode b_D_isFunction 16 = .ok (.goto 4, 3) := by decide +kernel
theorem d_D_isFunction_19 : decode b_D_isFunction 19 = .ok (.iconst 0, 1) := by decide +kernel
theorem d_D_isFunction_20 : decode b_D_isFunction 20 = .ok (.ireturn, 1) := by decide +kernel
theorem d_D_isOperation_0 : decode b_D_isOperation 0 = .ok (.iload_n 1, 1) := by decide +kernel
theorem d_D_isOperation_1 : decode b_D_isOperation 1 = .ok (.tableswitch 80 0 5 #[39, 57, 78, 63, 78, 57], 39) := by decide +kernel
theorem d_D_isOperation_40 : decode b_D_isOperation 40 = .ok (.iload_n 2, 1) := by decide +kernel
theorem d_D_isOperation_41 : decode b_D_isOperation 41 = .ok (.bipush (-99), 2) := by decide +kernel
theorem d_D_isOperation_43 : decode b_D_isOperation 43 = .ok (.if_icmp .lt 13, 3) := by decide +kernel
theorem d_D_isOperation_46 : decode b_D_isOperation 46 = .ok (.iload_n 2, 1) := by decide +kernel
theorem d_D_isOperation_47 : decode b_D_isOperation 47 = .ok (.bipush 99, 2) := by decide +kernel
theorem d_D_isOperation_49 : decode b_D_isOperation 49 = .ok (.if_icmp .gt 7, 3) := by decide +kernel
theorem d_D_isOperation_52 : decode b_D_isOperation 52 = .ok (.iconst 1, 1) := by decide +kernel
theorem d_D_isOperation_53 : decode b_D_isOperation 53 = .ok (.goto 4, 3) := by decide +kernel
theorem d_D_isOperation_56 : decode b_D_isOperation 56 = .ok (.iconst 0, 1) := by decide +kernel
theorem d_D_isOperation_57 : decode b_D_isOperation 57 = .ok (.ireturn, 1) := by decide +kernel
theorem d_D_isOperation_58 : decode b_D_isOperation 58 = .ok (.aload_n 0, 1) := by decide +kernel
theorem d_D_isOperation_59 : decode b_D_isOperation 59 = .ok (.iload_n 2, 1) := by decide +kernel
theorem d_D_isOperation_60 : decode b_D_isOperation 60 = .ok (.invokevirtual 66, 3) := by decide +kernel
theorem d_D_isOperation_63 : decode b_D_isOperation 63 = .ok (.ireturn, 1) := by decide +kernel
theorem d_D_isOperation_64 : decode b_D_isOperation 64 = .ok (.iload_n 2, 1) := by decide +kernel
theorem d_D_isOperation_65 : decode b_D_isOperation 65 = .ok (.ifCond .lt 12, 3) := by decide +kernel
theorem d_D_isOperation_68 : decode b_D_isOperation 68 = .ok (.iload_n 2, 1) := by decide +kernel
theorem d_D_isOperation_69 : decode b_D_isOperation 69 = .ok (.iload_n 3, 1) := by decide +kernel
theorem d_D_isOperation_70 : decode b_D_isOperation 70 = .ok (.if_icmp .gt 7, 3) := by decide +kernel
theorem d_D_isOperation_73 : decode b_D_isOperation 73 = .ok (.iconst 1, 1) := by decide +kernel
theorem d_D_isOperation_74 : decode b_D_isOperation 74 = .ok (.goto 4, 3) := by decide +kernel
theorem d_D_isOperation_77 : decode b_D_isOperation 77 = .ok (.iconst 0, 1) := by decide +kernel
theorem d_D_isOperation_78 : decode b_D_isOperation 78 = .ok (.ireturn, 1) := by decide +kernel
theorem d_D_isOperation_79 : decode b_D_isOperation 79 = .ok (.iconst 1, 1) := by decide +kernel
theorem d_D_isOperation_80 : decode b_D_isOperation 80 = .ok (.ireturn, 1) := by decide +kernel
theorem d_D_isOperation_81 : decode b_D_isOperation 81 = .ok (.iconst 0, 1) := by decide +kernel
theorem d_D_isOperation_82 : decode b_D_isOperation 82 = .ok (.ireturn, 1) := by decide +kernel
theorem d_D_name_0 : decode b_D_name 0 = .ok (.aload_n 0, 1) := by decide +kernel
theorem d_D_name_1 : decode b_D_name 1 = .ok (.iload_n 1, 1) := by decide +kernel
theorem d_D_name_2 : decode b_D_name 2 = .ok (.invokevirtual 66, 3) := by decide +kernel
theorem d_D_name_5 : decode b_D_name 5 = .ok (.ifCond .eq 21, 3) := by decide +kernel
theorem d_D_name_8 : decode b_D_name 8 = .ok (.aload_n 0, 1) := by decide +kernel
theorem d_D_name_9 : decode b_D_name 9 = .ok (.getfield 25, 3) := by decide +kernel
theorem d_D_name_12 : decode b_D_name 12 = .ok (.iload_n 1, 1) := by decide +kernel
theorem d_D_name_13 : decode b_D_name 13 = .ok (.invokevirtual 69, 3) := by decide +kernel
theorem d_D_name_16 : decode b_D_name 16 = .ok (.ifCond .ne 10, 3) := by decide +kernel
theorem d_D_name_19 : decode b_D_name 19 = .ok (.iload_n 2, 1) := by decide +kernel
theorem d_D_name_20 : decode b_D_name 20 = .ok (.invokestatic 33, 3) := by decide +kernel
theorem d_D_name_23 : decode b_D_name 23 = .ok (.ifCond .ne 13, 3) := by decide +kernel
theorem d_D_name_26 : decode b_D_name 26 = .ok (.new 37, 3) := by decide +kernel
theorem d_D_name_29 : decode b_D_name 29 = .ok (.dup, 1) := by decide +kernel
theorem d_D_name_30 : decode b_D_name 30 = .ok (.ldc 105, 2) := by decide +kernel
theorem d_D_name_32 : decode b_D_name 32 = .ok (.invokespecial 41, 3) := by decide +kernel
theorem d_D_name_35 : decode b_D_name 35 = .ok (.athrow, 1) := by decide +kernel
theorem d_D_name_36 : decode b_D_name 36 = .ok (.aload_n 0, 1) := by decide +kernel
theorem d_D_name_37 : decode b_D_name 37 = .ok (.getfield 25, 3) := by decide +kernel
theorem d_D_name_40 : decode b_D_name 40 = .ok (.iload_n 1, 1) := by decide +kernel
theorem d_D_name_41 : decode b_D_name 41 = .ok (.iload_n 2, 1) := by decide +kernel
theorem d_D_name_42 : decode b_D_name 42 = .ok (.invokevirtual 107, 3) := by decide +kernel
theorem d_D_name_45 : decode b_D_name 45 = .ok (.aload_n 0, 1) := by decide +kernel
theorem d_D_name_46 : decode b_D_name 46 = .ok (.getfield 25, 3) := by decide +kernel
theorem d_D_name_49 : decode b_D_name 49 = .ok (.getfield 110, 3) := by decide +kernel
theorem d_D_name_52 : decode b_D_name 52 = .ok (.ireturn, 1) := by decide +kernel
theorem d_D_apply_0 : decode b_D_apply 0 = .ok (.aload_n 0, 1) := by decide +kernel
theorem d_D_apply_1 : decode b_D_apply 1 = .ok (.getfield 25, 3) := by decide +kernel
theorem d_D_apply_4 : decode b_D_apply 4 = .ok (.astore_n 1, 1) := by decide +kernel
theorem d_D_apply_5 : decode b_D_apply 5 = .ok (.aload_n 0, 1) := by decide +kernel
theorem d_D_apply_6 : decode b_D_apply 6 = .ok (.new 22, 3) := by decide +kernel
theorem d_D_apply_9 : decode b_D_apply 9 = .ok (.dup, 1) := by decide +kernel
theorem d_D_apply_10 : decode b_D_apply 10 = .ok (.invokespecial 24, 3) := by decide +kernel
theorem d_D_apply_13 : decode b_D_apply 13 = .ok (.putfield 25, 3) := by decide +kernel
theorem d_D_apply_16 : decode b_D_apply 16 = .ok (.aload_n 1, 1) := by decide +kernel
theorem d_D_apply_17 : decode b_D_apply 17 = .ok (.getfield 110, 3) := by decide +kernel
theorem d_D_apply_20 : decode b_D_apply 20 = .ok (.ifCond .ne 13, 3) := by decide +kernel
theorem d_D_apply_23 : decode b_D_apply 23 = .ok (.new 37, 3) := by decide +kernel
theorem d_D_apply_26 : decode b_D_apply 26 = .ok (.dup, 1) := by decide +kernel
theorem d_D_apply_27 : decode b_D_apply 27 = .ok (.ldc 113, 2) := by decide +kernel
theorem d_D_apply_29 : decode b_D_apply 29 = .ok (.invokespecial 41, 3) := by decide +kernel
theorem d_D_apply_32 : decode b_D_apply 32 = .ok (.athrow, 1) := by decide +kernel
theorem d_D_apply_33 : decode b_D_apply 33 = .ok (.aload_n 0, 1) := by decide +kernel
theorem d_D_apply_34 : decode b_D_apply 34 = .ok (.aload_n 1, 1) := by decide +kernel
theorem d_D_apply_35 : decode b_D_apply 35 = .ok (.invokevirtual 115, 3) := by decide +kernel
theorem d_D_apply_38 : decode b_D_apply 38 = .ok (.ifCond .ne 13, 3) := by decide +kernel
theorem d_D_apply_41 : decode b_D_apply 41 = .ok (.new 119, 3) := by decide +kernel
theorem d_D_apply_44 : decode b_D_apply 44 = .ok (.dup, 1) := by decide +kernel
theorem d_D_apply_45 : decode b_D_apply 45 = .ok (.ldc 121, 2) := by decide +kernel
theorem d_D_apply_47 : decode b_D_apply 47 = .ok (.invokespecial 123, 3) := by decide +kernel
theorem d_D_apply_50 : decode b_D_apply 50 = .ok (.athrow, 1) := by decide +kernel
theorem d_D_apply_51 : decode b_D_apply 51 = .ok (.aload_n 0, 1) := by decide +kernel
theorem d_D_apply_52 : decode b_D_apply 52 = .ok (.getfield 29, 3) := by decide +kernel
theorem d_D_apply_55 : decode b_D_apply 55 = .ok (.iconst (-1), 1) := by decide +kernel
theorem d_D_apply_56 : decode b_D_apply 56 = .ok (.if_icmp .ne 14, 3) := by decide +kernel
theorem d_D_apply_59 : decode b_D_apply 59 = .ok (.aload_n 0, 1) := by decide +kernel
theorem d_D_apply_60 : decode b_D_apply 60 = .ok (.getfield 16, 3) := by decide +kernel
theorem d_D_apply_63 : decode b_D_apply 63 = .ok (.invokevirtual 44, 3) := by decide +kernel
theorem d_D_apply_66 : decode b_D_apply 66 = .ok (.iconst 5, 1) := by decide +kernel
theorem d_D_apply_67 : decode b_D_apply 67 = .ok (.if_icmp .lt 13, 3) := by decide +kernel
theorem d_D_apply_70 : decode b_D_apply 70 = .ok (.new 52, 3) := by decide +kernel
theorem d_D_apply_73 : decode b_D_apply 73 = .ok (.dup, 1) := by decide +kernel
theorem d_D_apply_74 : decode b_D_apply 74 = .ok (.ldc 124, 2) := by decide +kernel
theorem d_D_apply_76 : decode b_D_apply 76 = .ok (.invokespecial 56, 3) := by decide +kernel
theorem d_D_apply_79 : decode b_D_apply 79 = .ok (.athrow, 1) := by decide +kernel
theorem d_D_apply_80 : decode b_D_apply 80 = .ok (.aload_n 0, 1) := by decide +kernel
theorem d_D_apply_81 : decode b_D_apply 81 = .ok (.getfield 16, 3) := by decide +kernel
theorem d_D_apply_84 : decode b_D_apply 84 = .ok (.aload_n 1, 1) := by decide +kernel
theorem d_D_apply_85 : decode b_D_apply 85 = .ok (.invokevirtual 62, 3) := by decide +kernel
theorem d_D_apply_88 : decode b_D_apply 88 = .ok (.pop, 1) := by decide +kernel
theorem d_D_apply_89 : decode b_D_apply 89 = .ok (.aload_n 0, 1) := by decide +kernel
theorem d_D_apply_90 : decode b_D_apply 90 = .ok (.getfield 16, 3) := by decide +kernel
theorem d_D_apply_93 : decode b_D_apply 93 = .ok (.invokevirtual 44, 3) := by decide +kernel
theorem d_D_apply_96 : decode b_D_apply 96 = .ok (.istore_n 2, 1) := by decide +kernel
theorem d_D_apply_97 : decode b_D_apply 97 = .ok (.aload_n 0, 1) := by decide +kernel
theorem d_D_apply_98 : decode b_D_apply 98 = .ok (.iload_n 2, 1) := by decide +kernel
theorem d_D_apply_99 : decode b_D_apply 99 = .ok (.invokevirtual 126, 3) := by decide +kernel
theorem d_D_apply_102 : decode b_D_apply 102 = .ok (.iload_n 2, 1) := by decide +kernel
theorem d_D_apply_103 : decode b_D_apply 103 = .ok (.ireturn, 1) := by decide +kernel
theorem d_D_keepsSignatures_0 : decode b_D_keepsSignatures 0 = .ok (.iconst 0, 1) := by decide +kernel
theorem d_D_keepsSignatures_1 : decode b_D_keepsSignatures 1 = .ok (.istore_n 2, 1) := by decide +kernel
theorem d_D_keepsSignatures_2 : decode b_D_keepsSignatures 2 = .ok (.iload_n 2, 1) := by decide +kernel
theorem d_D_keepsSignatures_3 : decode b_D_keepsSignatures 3 = .ok (.aload_n 0, 1) := by decide +kernel
theorem d_D_keepsSignatures_4 : decode b_D_keepsSignatures 4 = .ok (.getfield 10, 3) := by decide +kernel
theorem d_D_keepsSignatures_7 : decode b_D_keepsSignatures 7 = .ok (.invokevirtual 44, 3) := by decide +kernel
theorem d_D_keepsSignatures_10 : decode b_D_keepsSignatures 10 = .ok (.if_icmp .ge 42, 3) := by decide +kernel
theorem d_D_keepsSignatures_13 : decode b_D_keepsSignatures 13 = .ok (.aload_n 1, 1) := by decide +kernel
theorem d_D_keepsSignatures_14 : decode b_D_keepsSignatures 14 = .ok (.iload_n 2, 1) := by decide +kernel
theorem d_D_keepsSignatures_15 : decode b_D_keepsSignatures 15 = .ok (.invokevirtual 69, 3) := by decide +kernel
theorem d_D_keepsSignatures_18 : decode b_D_keepsSignatures 18 = .ok (.ifCond .eq 28, 3) := by decide +kernel
theorem d_D_keepsSignatures_21 : decode b_D_keepsSignatures 21 = .ok (.aload_n 1, 1) := by decide +kernel
theorem d_D_keepsSignatures_22 : decode b_D_keepsSignatures 22 = .ok (.getfield 203, 3) := by decide +kernel
theorem d_D_keepsSignatures_25 : decode b_D_keepsSignatures 25 = .ok (.iload_n 2, 1) := by decide +kernel
theorem d_D_keepsSignatures_26 : decode b_D_keepsSignatures 26 = .ok (.iaload, 1) := by decide +kernel
theorem d_D_keepsSignatures_27 : decode b_D_keepsSignatures 27 = .ok (.aload_n 0, 1) := by decide +kernel
theorem d_D_keepsSignatures_28 : decode b_D_keepsSignatures 28 = .ok (.getfield 10, 3) := by decide +kernel
theorem d_D_keepsSignatures_31 : decode b_D_keepsSignatures 31 = .ok (.iload_n 2, 1) := by decide +kernel
theorem d_D_keepsSignatures_32 : decode b_D_keepsSignatures 32 = .ok (.invokevirtual 78, 3) := by decide +kernel
theorem d_D_keepsSignatures_35 : decode b_D_keepsSignatures 35 = .ok (.checkcast 57, 3) := by decide +kernel
theorem d_D_keepsSignatures_38 : decode b_D_keepsSignatures 38 = .ok (.getfield 207, 3) := by decide +kernel
theorem d_D_keepsSignatures_41 : decode b_D_keepsSignatures 41 = .ok (.if_icmp .eq 5, 3) := by decide +kernel
theorem d_D_keepsSignatures_44 : decode b_D_keepsSignatures 44 = .ok (.iconst 0, 1) := by decide +kernel
theorem d_D_keepsSignatures_45 : decode b_D_keepsSignatures 45 = .ok (.ireturn, 1) := by decide +kernel
theorem d_D_keepsSignatures_46 : decode b_D_keepsSignatures 46 = .ok (.iinc 2 1, 3) := by decide +kernel
theorem d_D_keepsSignatures_49 : decode b_D_keepsSignatures 49 = .ok (.goto (-47), 3) := by decide +kernel
theorem d_D_keepsSignatures_52 : decode b_D_keepsSignatures 52 = .ok (.iconst 1, 1) := by decide +kernel
theorem d_D_keepsSignatures_53 : decode b_D_keepsSignatures 53 = .ok (.ireturn, 1) := by decide +kernel
theorem d_D_headFor_0 : decode b_D_headFor 0 = .ok (.aload_n 0, 1) := by decide +kernel
theorem d_D_headFor_1 : decode b_D_headFor 1 = .ok (.iload_n 1, 1) := by decide +kernel
theorem d_D_headFor_2 : decode b_D_headFor 2 = .ok (.putfield 29, 3) := by decide +kernel
theorem d_D_headFor_5 : decode b_D_headFor 5 = .ok (.aload_n 0, 1) := by decide +kernel
theorem d_D_headFor_6 : decode b_D_headFor 6 = .ok (.invokevirtual 156, 3) := by decide +kernel
theorem d_D_headFor_9 : decode b_D_headFor 9 = .ok (.return_, 1) := by decide +kernel
theorem d_D_endTransitionWhenAllAreOver_0 : decode b_D_endTransitionWhenAllAreOver 0 = .ok (.iconst 0, 1) := by decide +kernel
theorem d_D_endTransitionWhenAllAreOver_1 : decode b_D_endTransitionWhenAllAreOver 1 = .ok (.istore_n 1, 1) := by decide +kernel
theorem d_D_endTransitionWhenAllAreOver_2 : decode b_D_endTransitionWhenAllAreOver 2 = .ok (.iload_n 1, 1) := by decide +kernel
theorem d_D_endTransitionWhenAllAreOver_3 : decode b_D_endTransitionWhenAllAreOver 3 = .ok (.aload_n 0, 1) := by decide +kernel
theorem d_D_endTransitionWhenAllAreOver_4 : decode b_D_endTransitionWhenAllAreOver 4 = .ok (.getfield 19, 3) := by decide +kernel
theorem d_D_endTransitionWhenAllAreOver_7 : decode b_D_endTransitionWhenAllAreOver 7 = .ok (.invokevirtual 44, 3) := by decide +kernel
theorem d_D_endTransitionWhenAllAreOver_10 : decode b_D_endTransitionWhenAllAreOver 10 = .ok (.if_icmp .ge 31, 3) := by decide +kernel
theorem d_D_endTransitionWhenAllAreOver_13 : decode b_D_endTransitionWhenAllAreOver 13 = .ok (.aload_n 0, 1) := by decide +kernel
theorem d_D_endTransitionWhenAllAreOver_14 : decode b_D_endTransitionWhenAllAreOver 14 = .ok (.getfield 19, 3) := by decide +kernel
theorem d_D_endTransitionWhenAllAreOver_17 : decode b_D_endTransitionWhenAllAreOver 17 = .ok (.iload_n 1, 1) := by decide +kernel
theorem d_D_endTransitionWhenAllAreOver_18 : decode b_D_endTransitionWhenAllAreOver 18 = .ok (.invokevirtual 78, 3) := by decide +kernel
theorem d_D_endTransitionWhenAllAreOver_21 : decode b_D_endTransitionWhenAllAreOver 21 = .ok (.checkcast 135, 3) := by decide +kernel
theorem d_D_endTransitionWhenAllAreOver_24 : decode b_D_endTransitionWhenAllAreOver 24 = .ok (.getfield 153, 3) := by decide +kernel
theorem d_D_endTransitionWhenAllAreOver_27 : decode b_D_endTransitionWhenAllAreOver 27 = .ok (.aload_n 0, 1) := by decide +kernel
theorem d_D_endTransitionWhenAllAreOver_28 : decode b_D_endTransitionWhenAllAreOver 28 = .ok (.getfield 29, 3) := by decide +kernel
theorem d_D_endTransitionWhenAllAreOver_31 : decode b_D_endTransitionWhenAllAreOver 31 = .ok (.if_icmp .eq 4, 3) := by decide +kernel
theorem d_D_endTransitionWhenAllAreOver_34 : decode b_D_endTransitionWhenAllAreOver 34 = .ok (.return_, 1) := by decide +kernel
theorem d_D_endTransitionWhenAllAreOver_35 : decode b_D_endTransitionWhenAllAreOver 35 = .ok (.iinc 1 1, 3) := by decide +kernel
theorem d_D_endTransitionWhenAllAreOver_38 : decode b_D_endTransitionWhenAllAreOver 38 = .ok (.goto (-36), 3) := by decide +kernel
theorem d_D_endTransitionWhenAllAreOver_41 : decode b_D_endTransitionWhenAllAreOver 41 = .ok (.aload_n 0, 1) := by decide +kernel
theorem d_D_endTransitionWhenAllAreOver_42 : decode b_D_endTransitionWhenAllAreOver 42 = .ok (.getfield 29, 3) := by decide +kernel
theorem d_D_endTransitionWhenAllAreOver_45 : decode b_D_endTransitionWhenAllAreOver 45 = .ok (.aload_n 0, 1) := by decide +kernel
theorem d_D_endTransitionWhenAllAreOver_46 : decode b_D_endTransitionWhenAllAreOver 46 = .ok (.getfield 16, 3) := by decide +kernel
theorem d_D_endTransitionWhenAllAreOver_49 : decode b_D_endTransitionWhenAllAreOver 49 = .ok (.invokevirtual 44, 3) := by decide +kernel
theorem d_D_endTransitionWhenAllAreOver_52 : decode b_D_endTransitionWhenAllAreOver 52 = .ok (.if_icmp .ge 20, 3) := by decide +kernel
theorem d_D_endTransitionWhenAllAreOver_55 : decode b_D_endTransitionWhenAllAreOver 55 = .ok (.aload_n 0, 1) := by decide +kernel
theorem d_D_endTransitionWhenAllAreOver_56 : decode b_D_endTransitionWhenAllAreOver 56 = .ok (.getfield 16, 3) := by decide +kernel
theorem d_D_endTransitionWhenAllAreOver_59 : decode b_D_endTransitionWhenAllAreOver 59 = .ok (.aload_n 0, 1) := by decide +kernel
theorem d_D_endTransitionWhenAllAreOver_60 : decode b_D_endTransitionWhenAllAreOver 60 = .ok (.getfield 16, 3) := by decide +kernel
theorem d_D_endTransitionWhenAllAreOver_63 : decode b_D_endTransitionWhenAllAreOver 63 = .ok (.invokevirtual 44, 3) := by decide +kernel
theorem d_D_endTransitionWhenAllAreOver_66 : decode b_D_endTransitionWhenAllAreOver 66 = .ok (.iconst 1, 1) := by decide +kernel
theorem d_D_endTransitionWhenAllAreOver_67 : decode b_D_endTransitionWhenAllAreOver 67 = .ok (.isub, 1) := by decide +kernel
theorem d_D_endTransitionWhenAllAreOver_68 : decode b_D_endTransitionWhenAllAreOver 68 = .ok (.invokevirtual 210, 3) := by decide +kernel
theorem d_D_endTransitionWhenAllAreOver_71 : decode b_D_endTransitionWhenAllAreOver 71 = .ok (.pop, 1) := by decide +kernel
theorem d_D_endTransitionWhenAllAreOver_72 : decode b_D_endTransitionWhenAllAreOver 72 = .ok (.aload_n 0, 1) := by decide +kernel
theorem d_D_endTransitionWhenAllAreOver_73 : decode b_D_endTransitionWhenAllAreOver 73 = .ok (.iconst (-1), 1) := by decide +kernel
theorem d_D_endTransitionWhenAllAreOver_74 : decode b_D_endTransitionWhenAllAreOver 74 = .ok (.putfield 29, 3) := by decide +kernel
theorem d_D_endTransitionWhenAllAreOver_77 : decode b_D_endTransitionWhenAllAreOver 77 = .ok (.return_, 1) := by decide +kernel
theorem d_D_turn_0 : decode b_D_turn 0 = .ok (.aload_n 0, 1) := by decide +kernel
theorem d_D_turn_1 : decode b_D_turn 1 = .ok (.getfield 16, 3) := by decide +kernel
theorem d_D_turn_4 : decode b_D_turn 4 = .ok (.invokevirtual 44, 3) := by decide +kernel
theorem d_D_turn_7 : decode b_D_turn 7 = .ok (.istore_n 1, 1) := by decide +kernel
theorem d_D_turn_8 : decode b_D_turn 8 = .ok (.iload_n 1, 1) := by decide +kernel
theorem d_D_turn_9 : decode b_D_turn 9 = .ok (.ifCond .ne 13, 3) := by decide +kernel
theorem d_D_turn_12 : decode b_D_turn 12 = .ok (.new 52, 3) := by decide +kernel
theorem d_D_turn_15 : decode b_D_turn 15 = .ok (.dup, 1) := by decide +kernel
theorem d_D_turn_16 : decode b_D_turn 16 = .ok (.ldc 129, 2) := by decide +kernel
theorem d_D_turn_18 : decode b_D_turn 18 = .ok (.invokespecial 56, 3) := by decide +kernel
theorem d_D_turn_21 : decode b_D_turn 21 = .ok (.athrow, 1) := by decide +kernel
theorem d_D_turn_22 : decode b_D_turn 22 = .ok (.aload_n 0, 1) := by decide +kernel
theorem d_D_turn_23 : decode b_D_turn 23 = .ok (.getfield 29, 3) := by decide +kernel
theorem d_D_turn_26 : decode b_D_turn 26 = .ok (.iload_n 1, 1) := by decide +kernel
theorem d_D_turn_27 : decode b_D_turn 27 = .ok (.iconst 1, 1) := by decide +kernel
theorem d_D_turn_28 : decode b_D_turn 28 = .ok (.isub, 1) := by decide +kernel
theorem d_D_turn_29 : decode b_D_turn 29 = .ok (.if_icmp .ne 7, 3) := by decide +kernel
theorem d_D_turn_32 : decode b_D_turn 32 = .ok (.iconst 1, 1) := by decide +kernel
theorem d_D_turn_33 : decode b_D_turn 33 = .ok (.goto 4, 3) := by decide +kernel
theorem d_D_turn_36 : decode b_D_turn 36 = .ok (.iconst 0, 1) := by decide +kernel
theorem d_D_turn_37 : decode b_D_turn 37 = .ok (.istore_n 2, 1) := by decide +kernel
theorem d_D_turn_38 : decode b_D_turn 38 = .ok (.iload_n 2, 1) := by decide +kernel
theorem d_D_turn_39 : decode b_D_turn 39 = .ok (.ifCond .eq 7, 3) := by decide +kernel
theorem d_D_turn_42 : decode b_D_turn 42 = .ok (.iload_n 1, 1) := by decide +kernel
theorem d_D_turn_43 : decode b_D_turn 43 = .ok (.goto 6, 3) := by decide +kernel
theorem d_D_turn_46 : decode b_D_turn 46 = .ok (.iload_n 1, 1) := by decide +kernel
theorem d_D_turn_47 : decode b_D_turn 47 = .ok (.iconst 1, 1) := by decide +kernel
theorem d_D_turn_48 : decode b_D_turn 48 = .ok (.isub, 1) := by decide +kernel
theorem d_D_turn_49 : decode b_D_turn 49 = .ok (.istore_n 3, 1) := by decide +kernel
theorem d_D_turn_50 : decode b_D_turn 50 = .ok (.aload_n 0, 1) := by decide +kernel
theorem d_D_turn_51 : decode b_D_turn 51 = .ok (.iload_n 3, 1) := by decide +kernel
theorem d_D_turn_52 : decode b_D_turn 52 = .ok (.invokevirtual 126, 3) := by decide +kernel
theorem d_D_turn_55 : decode b_D_turn 55 = .ok (.iload_n 3, 1) := by decide +kernel
theorem d_D_turn_56 : decode b_D_turn 56 = .ok (.ireturn, 1) := by decide +kernel
theorem d_D_task_0 : decode b_D_task 0 = .ok (.aload_n 0, 1) := by decide +kernel
theorem d_D_task_1 : decode b_D_task 1 = .ok (.iload_n 1, 1) := by decide +kernel
theorem d_D_task_2 : decode b_D_task 2 = .ok (.invokevirtual 66, 3) := by decide +kernel
theorem d_D_task_5 : decode b_D_task 5 = .ok (.ifCond .ne 13, 3) := by decide +kernel
theorem d_D_task_8 : decode b_D_task 8 = .ok (.new 37, 3) := by decide +kernel
theorem d_D_task_11 : decode b_D_task 11 = .ok (.dup, 1) := by decide +kernel
theorem d_D_task_12 : decode b_D_task 12 = .ok (.ldc 131, 2) := by decide +kernel
theorem d_D_task_14 : decode b_D_task 14 = .ok (.invokespecial 41, 3) := by decide +kernel
theorem d_D_task_17 : decode b_D_task 17 = .ok (.athrow, 1) := by decide +kernel
theorem d_D_task_18 : decode b_D_task 18 = .ok (.aload_n 0, 1) := by decide +kernel
theorem d_D_task_19 : decode b_D_task 19 = .ok (.getfield 19, 3) := by decide +kernel
theorem d_D_task_22 : decode b_D_task 22 = .ok (.invokevirtual 44, 3) := by decide +kernel
theorem d_D_task_25 : decode b_D_task 25 = .ok (.iconst 4, 1) := by decide +kernel
theorem d_D_task_26 : decode b_D_task 26 = .ok (.if_icmp .lt 13, 3) := by decide +kernel
theorem d_D_task_29 : decode b_D_task 29 = .ok (.new 52, 3) := by decide +kernel
theorem d_D_task_32 : decode b_D_task 32 = .ok (.dup, 1) := by decide +kernel
theorem d_D_task_33 : decode b_D_task 33 = .ok (.ldc 133, 2) := by decide +kernel
theorem d_D_task_35 : decode b_D_task 35 = .ok (.invokespecial 56, 3) := by decide +kernel
theorem d_D_task_38 : decode b_D_task 38 = .ok (.athrow, 1) := by decide +kernel
theorem d_D_task_39 : decode b_D_task 39 = .ok (.aload_n 0, 1) := by decide +kernel
theorem d_D_task_40 : decode b_D_task 40 = .ok (.getfield 29, 3) := by decide +kernel
theorem d_D_task_43 : decode b_D_task 43 = .ok (.iconst (-1), 1) := by decide +kernel
theorem d_D_task_44 : decode b_D_task 44 = .ok (.if_icmp .ne 13, 3) := by decide +kernel
theorem d_D_task_47 : decode b_D_task 47 = .ok (.aload_n 0, 1) := by decide +kernel
theorem d_D_task_48 : decode b_D_task 48 = .ok (.getfield 16, 3) := by decide +kernel
theorem d_D_task_51 : decode b_D_task 51 = .ok (.invokevirtual 44, 3) := by decide +kernel
theorem d_D_task_54 : decode b_D_task 54 = .ok (.goto 7, 3) := by decide +kernel
theorem d_D_task_57 : decode b_D_task 57 = .ok (.aload_n 0, 1) := by decide +kernel
theorem d_D_task_58 : decode b_D_task 58 = .ok (.getfield 29, 3) := by decide +kernel
theorem d_D_task_61 : decode b_D_task 61 = .ok (.istore_n 2, 1) := by decide +kernel
theorem d_D_task_62 : decode b_D_task 62 = .ok (.aload_n 0, 1) := by decide +kernel
theorem d_D_task_63 : decode b_D_task 63 = .ok (.getfield 19, 3) := by decide +kernel
theorem d_D_task_66 : decode b_D_task 66 = .ok (.new 135, 3) := by decide +kernel
theorem d_D_task_69 : decode b_D_task 69 = .ok (.dup, 1) := by decide +kernel
theorem d_D_task_70 : decode b_D_task 70 = .ok (.iload_n 1, 1) := by decide +kernel
theorem d_D_task_71 : decode b_D_task 71 = .ok (.iload_n 2, 1) := by decide +kernel
theorem d_D_task_72 : decode b_D_task 72 = .ok (.aload_n 0, 1) := by decide +kernel
theorem d_D_task_73 : decode b_D_task 73 = .ok (.iload_n 1, 1) := by decide +kernel
theorem d_D_task_74 : decode b_D_task 74 = .ok (.iload_n 2, 1) := by decide +kernel
theorem d_D_task_75 : decode b_D_task 75 = .ok (.invokevirtual 137, 3) := by decide +kernel
theorem d_D_task_78 : decode b_D_task 78 = .ok (.invokespecial 141, 3) := by decide +kernel
theorem d_D_task_81 : decode b_D_task 81 = .ok (.invokevirtual 62, 3) := by decide +kernel
theorem d_D_task_84 : decode b_D_task 84 = .ok (.pop, 1) := by decide +kernel
theorem d_D_task_85 : decode b_D_task 85 = .ok (.aload_n 0, 1) := by decide +kernel
theorem d_D_task_86 : decode b_D_task 86 = .ok (.getfield 19, 3) := by decide +kernel
theorem d_D_task_89 : decode b_D_task 89 = .ok (.invokevirtual 44, 3) := by decide +kernel
theorem d_D_task_92 : decode b_D_task 92 = .ok (.iconst 1, 1) := by decide +kernel
theorem d_D_task_93 : decode b_D_task 93 = .ok (.isub, 1) := by decide +kernel
theorem d_D_task_94 : decode b_D_task 94 = .ok (.ireturn, 1) := by decide +kernel
theorem d_D_bodyAt_0 : decode b_D_bodyAt 0 = .ok (.aload_n 0, 1) := by decide +kernel
theorem d_D_bodyAt_1 : decode b_D_bodyAt 1 = .ok (.getfield 10, 3) := by decide +kernel
theorem d_D_bodyAt_4 : decode b_D_bodyAt 4 = .ok (.iload_n 1, 1) := by decide +kernel
theorem d_D_bodyAt_5 : decode b_D_bodyAt 5 = .ok (.invokevirtual 78, 3) := by decide +kernel
theorem d_D_bodyAt_8 : decode b_D_bodyAt 8 = .ok (.checkcast 57, 3) := by decide +kernel
theorem d_D_bodyAt_11 : decode b_D_bodyAt 11 = .ok (.getfield 82, 3) := by decide +kernel
theorem d_D_bodyAt_14 : decode b_D_bodyAt 14 = .ok (.astore_n 3, 1) := by decide +kernel
theorem d_D_bodyAt_15 : decode b_D_bodyAt 15 = .ok (.iconst 0, 1) := by decide +kernel
theorem d_D_bodyAt_16 : decode b_D_bodyAt 16 = .ok (.istore 4, 2) := by decide +kernel
theorem d_D_bodyAt_18 : decode b_D_bodyAt 18 = .ok (.iload 4, 2) := by decide +kernel
theorem d_D_bodyAt_20 : decode b_D_bodyAt 20 = .ok (.iload_n 2, 1) := by decide +kernel
theorem d_D_bodyAt_21 : decode b_D_bodyAt 21 = .ok (.if_icmp .ge 52, 3) := by decide +kernel
theorem d_D_bodyAt_24 : decode b_D_bodyAt 24 = .ok (.iload 4, 2) := by decide +kernel
theorem d_D_bodyAt_26 : decode b_D_bodyAt 26 = .ok (.aload_n 0, 1) := by decide +kernel
theorem d_D_bodyAt_27 : decode b_D_bodyAt 27 = .ok (.getfield 16, 3) := by decide +kernel
theorem d_D_bodyAt_30 : decode b_D_bodyAt 30 = .ok (.invokevirtual 44, 3) := by decide +kernel
theorem d_D_bodyAt_33 : decode b_D_bodyAt 33 = .ok (.if_icmp .ge 40, 3) := by decide +kernel
theorem d_D_bodyAt_36 : decode b_D_bodyAt 36 = .ok (.aload_n 0, 1) := by decide +kernel
theorem d_D_bodyAt_37 : decode b_D_bodyAt 37 = .ok (.getfield 16, 3) := by decide +kernel
theorem d_D_bodyAt_40 : decode b_D_bodyAt 40 = .ok (.iload 4, 2) := by decide +kernel
theorem d_D_bodyAt_42 : decode b_D_bodyAt 42 = .ok (.invokevirtual 78, 3) := by decide +kernel
theorem d_D_bodyAt_45 : decode b_D_bodyAt 45 = .ok (.checkcast 22, 3) := by decide +kernel
theorem d_D_bodyAt_48 : decode b_D_bodyAt 48 = .ok (.astore 5, 2) := by decide +kernel
theorem d_D_bodyAt_50 : decode b_D_bodyAt 50 = .ok (.aload 5, 2) := by decide +kernel
theorem d_D_bodyAt_52 : decode b_D_bodyAt 52 = .ok (.iload_n 1, 1) := by decide +kernel
theorem d_D_bodyAt_53 : decode b_D_bodyAt 53 = .ok (.invokevirtual 69, 3) := by decide +kernel
theorem d_D_bodyAt_56 : decode b_D_bodyAt 56 = .ok (.ifCond .eq 11, 3) := by decide +kernel
theorem d_D_bodyAt_59 : decode b_D_bodyAt 59 = .ok (.aload 5, 2) := by decide +kernel
theorem d_D_bodyAt_61 : decode b_D_bodyAt 61 = .ok (.getfield 74, 3) := by decide +kernel
theorem d_D_bodyAt_64 : decode b_D_bodyAt 64 = .ok (.iload_n 1, 1) := by decide +kernel
theorem d_D_bodyAt_65 : decode b_D_bodyAt 65 = .ok (.aaload, 1) := by decide +kernel
theorem d_D_bodyAt_66 : decode b_D_bodyAt 66 = .ok (.astore_n 3, 1) := by decide +kernel
theorem d_D_bodyAt_67 : decode b_D_bodyAt 67 = .ok (.iinc 4 1, 3) := by decide +kernel
theorem d_D_bodyAt_70 : decode b_D_bodyAt 70 = .ok (.goto (-52), 3) := by decide +kernel
theorem d_D_bodyAt_73 : decode b_D_bodyAt 73 = .ok (.aload_n 3, 1) := by decide +kernel
theorem d_D_bodyAt_74 : decode b_D_bodyAt 74 = .ok (.areturn, 1) := by decide +kernel
theorem d_D_step_0 : decode b_D_step 0 = .ok (.aload_n 0, 1) := by decide +kernel
theorem d_D_step_1 : decode b_D_step 1 = .ok (.iload_n 1, 1) := by decide +kernel
theorem d_D_step_2 : decode b_D_step 2 = .ok (.invokevirtual 144, 3) := by decide +kernel
theorem d_D_step_5 : decode b_D_step 5 = .ok (.ifCond .eq 14, 3) := by decide +kernel
theorem d_D_step_8 : decode b_D_step 8 = .ok (.iload_n 2, 1) := by decide +kernel
theorem d_D_step_9 : decode b_D_step 9 = .ok (.iconst 1, 1) := by decide +kernel
theorem d_D_step_10 : decode b_D_step 10 = .ok (.if_icmp .lt 9, 3) := by decide +kernel
theorem d_D_step_13 : decode b_D_step 13 = .ok (.iload_n 2, 1) := by decide +kernel
theorem d_D_step_14 : decode b_D_step 14 = .ok (.bipush 100, 2) := by decide +kernel
theorem d_D_step_16 : decode b_D_step 16 = .ok (.if_icmp .le 13, 3) := by decide +kernel
theorem d_D_step_19 : decode b_D_step 19 = .ok (.new 37, 3) := by decide +kernel
theorem d_D_step_22 : decode b_D_step 22 = .ok (.dup, 1) := by decide +kernel
theorem d_D_step_23 : decode b_D_step 23 = .ok (.ldc 147, 2) := by decide +kernel
theorem d_D_step_25 : decode b_D_step 25 = .ok (.invokespecial 41, 3) := by decide +kernel
theorem d_D_step_28 : decode b_D_step 28 = .ok (.athrow, 1) := by decide +kernel
theorem d_D_step_29 : decode b_D_step 29 = .ok (.aload_n 0, 1) := by decide +kernel
theorem d_D_step_30 : decode b_D_step 30 = .ok (.getfield 19, 3) := by decide +kernel
theorem d_D_step_33 : decode b_D_step 33 = .ok (.iload_n 1, 1) := by decide +kernel
theorem d_D_step_34 : decode b_D_step 34 = .ok (.invokevirtual 78, 3) := by decide +kernel
theorem d_D_step_37 : decode b_D_step 37 = .ok (.checkcast 135, 3) := by decide +kernel
theorem d_D_step_40 : decode b_D_step 40 = .ok (.astore_n 3, 1) := by decide +kernel
theorem d_D_step_41 : decode b_D_step 41 = .ok (.iconst 0, 1) := by decide +kernel
theorem d_D_step_42 : decode b_D_step 42 = .ok (.istore 4, 2) := by decide +kernel
theorem d_D_step_44 : decode b_D_step 44 = .ok (.iconst 1, 1) := by decide +kernel
theorem d_D_step_45 : decode b_D_step 45 = .ok (.istore 5, 2) := by decide +kernel
theorem d_D_step_47 : decode b_D_step 47 = .ok (.iload 5, 2) := by decide +kernel
theorem d_D_step_49 : decode b_D_step 49 = .ok (.iload_n 2, 1) := by decide +kernel
theorem d_D_step_50 : decode b_D_step 50 = .ok (.if_icmp .gt 38, 3) := by decide +kernel
theorem d_D_step_53 : decode b_D_step 53 = .ok (.aload_n 0, 1) := by decide +kernel
theorem d_D_step_54 : decode b_D_step 54 = .ok (.aload_n 3, 1) := by decide +kernel
theorem d_D_step_55 : decode b_D_step 55 = .ok (.invokevirtual 149, 3) := by decide +kernel
theorem d_D_step_58 : decode b_D_step 58 = .ok (.ifCond .eq 19, 3) := by decide +kernel
theorem d_D_step_61 : decode b_D_step 61 = .ok (.aload_n 3, 1) := by decide +kernel
theorem d_D_step_62 : decode b_D_step 62 = .ok (.aload_n 0, 1) := by decide +kernel
theorem d_D_step_63 : decode b_D_step 63 = .ok (.getfield 29, 3) := by decide +kernel
theorem d_D_step_66 : decode b_D_step 66 = .ok (.putfield 153, 3) := by decide +kernel
theorem d_D_step_69 : decode b_D_step 69 = .ok (.aload_n 0, 1) := by decide +kernel
theorem d_D_step_70 : decode b_D_step 70 = .ok (.invokevirtual 156, 3) := by decide +kernel
theorem d_D_step_73 : decode b_D_step 73 = .ok (.iload 5, 2) := by decide +kernel
theorem d_D_step_75 : decode b_D_step 75 = .ok (.istore 4, 2) := by decide +kernel
theorem d_D_step_77 : decode b_D_step 77 = .ok (.aload_n 0, 1) := by decide +kernel
theorem d_D_step_78 : decode b_D_step 78 = .ok (.aload_n 3, 1) := by decide +kernel
theorem d_D_step_79 : decode b_D_step 79 = .ok (.invokevirtual 159, 3) := by decide +kernel
theorem d_D_step_82 : decode b_D_step 82 = .ok (.iinc 5 1, 3) := by decide +kernel
theorem d_D_step_85 : decode b_D_step 85 = .ok (.goto (-38), 3) := by decide +kernel
theorem d_D_step_88 : decode b_D_step 88 = .ok (.iload 4, 2) := by decide +kernel
theorem d_D_step_90 : decode b_D_step 90 = .ok (.ireturn, 1) := by decide +kernel
theorem d_D_isTask_0 : decode b_D_isTask 0 = .ok (.iload_n 1, 1) := by decide +kernel
theorem d_D_isTask_1 : decode b_D_isTask 1 = .ok (.ifCond .lt 18, 3) := by decide +kernel
theorem d_D_isTask_4 : decode b_D_isTask 4 = .ok (.iload_n 1, 1) := by decide +kernel
theorem d_D_isTask_5 : decode b_D_isTask 5 = .ok (.aload_n 0, 1) := by decide +kernel
theorem d_D_isTask_6 : decode b_D_isTask 6 = .ok (.getfield 19, 3) := by decide +kernel
theorem d_D_isTask_9 : decode b_D_isTask 9 = .ok (.invokevirtual 44, 3) := by decide +kernel
theorem d_D_isTask_12 : decode b_D_isTask 12 = .ok (.if_icmp .ge 7, 3) := by decide +kernel
theorem d_D_isTask_15 : decode b_D_isTask 15 = .ok (.iconst 1, 1) := by decide +kernel
theorem d_D_isTask_16 : decode b_D_isTask 16 = .ok (.goto 4, 3) := by decide +kernel
theorem d_D_isTask_19 : decode b_D_isTask 19 = .ok (.iconst 0, 1) := by decide +kernel
theorem d_D_isTask_20 : decode b_D_isTask 20 = .ok (.ireturn, 1) := by decide +kernel
theorem d_D_canGoOver_0 : decode b_D_canGoOver 0 = .ok (.aload_n 0, 1) := by decide +kernel
theorem d_D_canGoOver_1 : decode b_D_canGoOver 1 = .ok (.getfield 29, 3) := by decide +kernel
theorem d_D_canGoOver_4 : decode b_D_canGoOver 4 = .ok (.iconst (-1), 1) := by decide +kernel
theorem d_D_canGoOver_5 : decode b_D_canGoOver 5 = .ok (.if_icmp .eq 14, 3) := by decide +kernel
theorem d_D_canGoOver_8 : decode b_D_canGoOver 8 = .ok (.aload_n 1, 1) := by decide +kernel
theorem d_D_canGoOver_9 : decode b_D_canGoOver 9 = .ok (.getfield 153, 3) := by decide +kernel
theorem d_D_canGoOver_12 : decode b_D_canGoOver 12 = .ok (.aload_n 0, 1) := by decide +kernel
theorem d_D_canGoOver_13 : decode b_D_canGoOver 13 = .ok (.getfield 29, 3) := by decide +kernel
theorem d_D_canGoOver_16 : decode b_D_canGoOver 16 = .ok (.if_icmp .ne 5, 3) := by decide +kernel
theorem d_D_canGoOver_19 : decode b_D_canGoOver 19 = .ok (.iconst 0, 1) := by decide +kernel
theorem d_D_canGoOver_20 : decode b_D_canGoOver 20 = .ok (.ireturn, 1) := by decide +kernel
theorem d_D_canGoOver_21 : decode b_D_canGoOver 21 = .ok (.aload_n 1, 1) := by decide +kernel
theorem d_D_canGoOver_22 : decode b_D_canGoOver 22 = .ok (.invokevirtual 213, 3) := by decide +kernel
theorem d_D_canGoOver_25 : decode b_D_canGoOver 25 = .ok (.invokevirtual 217, 3) := by decide +kernel
theorem d_D_canGoOver_28 : decode b_D_canGoOver 28 = .ok (.istore_n 2, 1) := by decide +kernel
theorem d_D_canGoOver_29 : decode b_D_canGoOver 29 = .ok (.iload_n 2, 1) := by decide +kernel
theorem d_D_canGoOver_30 : decode b_D_canGoOver 30 = .ok (.iconst (-1), 1) := by decide +kernel
theorem d_D_canGoOver_31 : decode b_D_canGoOver 31 = .ok (.if_icmp .ne 17, 3) := by decide +kernel
theorem d_D_canGoOver_34 : decode b_D_canGoOver 34 = .ok (.aload_n 1, 1) := by decide +kernel
theorem d_D_canGoOver_35 : decode b_D_canGoOver 35 = .ok (.getfield 168, 3) := by decide +kernel
theorem d_D_canGoOver_38 : decode b_D_canGoOver 38 = .ok (.iconst 1, 1) := by decide +kernel
theorem d_D_canGoOver_39 : decode b_D_canGoOver 39 = .ok (.if_icmp .ne 7, 3) := by decide +kernel
theorem d_D_canGoOver_42 : decode b_D_canGoOver 42 = .ok (.iconst 1, 1) := by decide +kernel
theorem d_D_canGoOver_43 : decode b_D_canGoOver 43 = .ok (.goto 4, 3) := by decide +kernel
theorem d_D_canGoOver_46 : decode b_D_canGoOver 46 = .ok (.iconst 0, 1) := by decide +kernel
theorem d_D_canGoOver_47 : decode b_D_canGoOver 47 = .ok (.ireturn, 1) := by decide +kernel
theorem d_D_canGoOver_48 : decode b_D_canGoOver 48 = .ok (.iload_n 2, 1) := by decide +kernel
theorem d_D_canGoOver_49 : decode b_D_canGoOver 49 = .ok (.iconst 2, 1) := by decide +kernel
theorem d_D_canGoOver_50 : decode b_D_canGoOver 50 = .ok (.if_icmp .ne 15, 3) := by decide +kernel
theorem d_D_canGoOver_53 : decode b_D_canGoOver 53 = .ok (.aload_n 0, 1) := by decide +kernel
theorem d_D_canGoOver_54 : decode b_D_canGoOver 54 = .ok (.aload_n 1, 1) := by decide +kernel
theorem d_D_canGoOver_55 : decode b_D_canGoOver 55 = .ok (.invokevirtual 220, 3) := by decide +kernel
theorem d_D_canGoOver_58 : decode b_D_canGoOver 58 = .ok (.ifCond .ne 7, 3) := by decide +kernel
theorem d_D_canGoOver_61 : decode b_D_canGoOver 61 = .ok (.iconst 1, 1) := by decide +kernel
theorem d_D_canGoOver_62 : decode b_D_canGoOver 62 = .ok (.goto 4, 3) := by decide +kernel
theorem d_D_canGoOver_65 : decode b_D_canGoOver 65 = .ok (.iconst 0, 1) := by decide +kernel
theorem d_D_canGoOver_66 : decode b_D_canGoOver 66 = .ok (.ireturn, 1) := by decide +kernel
theorem d_D_hasPatchedFrame_0 : decode b_D_hasPatchedFrame 0 = .ok (.iconst 0, 1) := by decide +kernel
theorem d_D_hasPatchedFrame_1 : decode b_D_hasPatchedFrame 1 = .ok (.istore_n 2, 1) := by decide +kernel
theorem d_D_hasPatchedFrame_2 : decode b_D_hasPatchedFrame 2 = .ok (.iload_n 2, 1) := by decide +kernel
theorem d_D_hasPatchedFrame_3 : decode b_D_hasPatchedFrame 3 = .ok (.aload_n 1, 1) := by decide +kernel
theorem d_D_hasPatchedFrame_4 : decode b_D_hasPatchedFrame 4 = .ok (.getfield 168, 3) := by decide +kernel
theorem d_D_hasPatchedFrame_7 : decode b_D_hasPatchedFrame 7 = .ok (.if_icmp .ge 27, 3) := by decide +kernel
theorem d_D_hasPatchedFrame_10 : decode b_D_hasPatchedFrame 10 = .ok (.aload_n 0, 1) := by decide +kernel
theorem d_D_hasPatchedFrame_11 : decode b_D_hasPatchedFrame 11 = .ok (.aload_n 1, 1) := by decide +kernel
theorem d_D_hasPatchedFrame_12 : decode b_D_hasPatchedFrame 12 = .ok (.getfield 185, 3) := by decide +kernel
theorem d_D_hasPatchedFrame_15 : decode b_D_hasPatchedFrame 15 = .ok (.iload_n 2, 1) := by decide +kernel
theorem d_D_hasPatchedFrame_16 : decode b_D_hasPatchedFrame 16 = .ok (.aaload, 1) := by decide +kernel
theorem d_D_hasPatchedFrame_17 : decode b_D_hasPatchedFrame 17 = .ok (.getfield 189, 3) := by decide +kernel
theorem d_D_hasPatchedFrame_20 : decode b_D_hasPatchedFrame 20 = .ok (.invokevirtual 223, 3) := by decide +kernel
theorem d_D_hasPatchedFrame_23 : decode b_D_hasPatchedFrame 23 = .ok (.ifCond .eq 5, 3) := by decide +kernel
theorem d_D_hasPatchedFrame_26 : decode b_D_hasPatchedFrame 26 = .ok (.iconst 1, 1) := by decide +kernel
theorem d_D_hasPatchedFrame_27 : decode b_D_hasPatchedFrame 27 = .ok (.ireturn, 1) := by decide +kernel
theorem d_D_hasPatchedFrame_28 : decode b_D_hasPatchedFrame 28 = .ok (.iinc 2 1, 3) := by decide +kernel
theorem d_D_hasPatchedFrame_31 : decode b_D_hasPatchedFrame 31 = .ok (.goto (-29), 3) := by decide +kernel
theorem d_D_hasPatchedFrame_34 : decode b_D_hasPatchedFrame 34 = .ok (.iconst 0, 1) := by decide +kernel
theorem d_D_hasPatchedFrame_35 : decode b_D_hasPatchedFrame 35 = .ok (.ireturn, 1) := by decide +kernel
theorem d_D_isInLatestPatch_0 : decode b_D_isInLatestPatch 0 = .ok (.aload_n 0, 1) := by decide +kernel
theorem d_D_isInLatestPatch_1 : decode b_D_isInLatestPatch 1 = .ok (.getfield 16, 3) := by decide +kernel
theorem d_D_isInLatestPatch_4 : decode b_D_isInLatestPatch 4 = .ok (.invokevirtual 200, 3) := by decide +kernel
theorem d_D_isInLatestPatch_7 : decode b_D_isInLatestPatch 7 = .ok (.ifCond .ne 33, 3) := by decide +kernel
theorem d_D_isInLatestPatch_10 : decode b_D_isInLatestPatch 10 = .ok (.aload_n 0, 1) := by decide +kernel
theorem d_D_isInLatestPatch_11 : decode b_D_isInLatestPatch 11 = .ok (.getfield 16, 3) := by decide +kernel
theorem d_D_isInLatestPatch_14 : decode b_D_isInLatestPatch 14 = .ok (.aload_n 0, 1) := by decide +kernel
theorem d_D_isInLatestPatch_15 : decode b_D_isInLatestPatch 15 = .ok (.getfield 16, 3) := by decide +kernel
theorem d_D_isInLatestPatch_18 : decode b_D_isInLatestPatch 18 = .ok (.invokevirtual 44, 3) := by decide +kernel
theorem d_D_isInLatestPatch_21 : decode b_D_isInLatestPatch 21 = .ok (.iconst 1, 1) := by decide +kernel
theorem d_D_isInLatestPatch_22 : decode b_D_isInLatestPatch 22 = .ok (.isub, 1) := by decide +kernel
theorem d_D_isInLatestPatch_23 : decode b_D_isInLatestPatch 23 = .ok (.invokevirtual 78, 3) := by decide +kernel
theorem d_D_isInLatestPatch_26 : decode b_D_isInLatestPatch 26 = .ok (.checkcast 22, 3) := by decide +kernel
theorem d_D_isInLatestPatch_29 : decode b_D_isInLatestPatch 29 = .ok (.iload_n 1, 1) := by decide +kernel
theorem d_D_isInLatestPatch_30 : decode b_D_isInLatestPatch 30 = .ok (.invokevirtual 69, 3) := by decide +kernel
theorem d_D_isInLatestPatch_33 : decode b_D_isInLatestPatch 33 = .ok (.ifCond .eq 7, 3) := by decide +kernel
theorem d_D_isInLatestPatch_36 : decode b_D_isInLatestPatch 36 = .ok (.iconst 1, 1) := by decide +kernel
theorem d_D_isInLatestPatch_37 : decode b_D_isInLatestPatch 37 = .ok (.goto 4, 3) := by decide +kernel
theorem d_D_isInLatestPatch_40 : decode b_D_isInLatestPatch 40 = .ok (.iconst 0, 1) := by decide +kernel
theorem d_D_isInLatestPatch_41 : decode b_D_isInLatestPatch 41 = .ok (.ireturn, 1) := by decide +kernel
theorem d_D_stepOnce_0 : decode b_D_stepOnce 0 = .ok (.aload_n 1, 1) := by decide +kernel
theorem d_D_stepOnce_1 : decode b_D_stepOnce 1 = .ok (.dup, 1) := by decide +kernel
theorem d_D_stepOnce_2 : decode b_D_stepOnce 2 = .ok (.getfield 171, 3) := by decide +kernel
theorem d_D_stepOnce_5 : decode b_D_stepOnce 5 = .ok (.iconst 1, 1) := by decide +kernel
theorem d_D_stepOnce_6 : decode b_D_stepOnce 6 = .ok (.iadd, 1) := by decide +kernel
theorem d_D_stepOnce_7 : decode b_D_stepOnce 7 = .ok (.putfield 171, 3) := by decide +kernel
theorem d_D_stepOnce_10 : decode b_D_stepOnce 10 = .ok (.aload_n 1, 1) := by decide +kernel
theorem d_D_stepOnce_11 : decode b_D_stepOnce 11 = .ok (.invokevirtual 213, 3) := by decide +kernel
theorem d_D_stepOnce_14 : decode b_D_stepOnce 14 = .ok (.astore_n 2, 1) := by decide +kernel
theorem d_D_stepOnce_15 : decode b_D_stepOnce 15 = .ok (.aload_n 2, 1) := by decide +kernel
theorem d_D_stepOnce_16 : decode b_D_stepOnce 16 = .ok (.invokevirtual 217, 3) := by decide +kernel
theorem d_D_stepOnce_19 : decode b_D_stepOnce 19 = .ok (.istore_n 3, 1) := by decide +kernel
theorem d_D_stepOnce_20 : decode b_D_stepOnce 20 = .ok (.iload_n 3, 1) := by decide +kernel
theorem d_D_stepOnce_21 : decode b_D_stepOnce 21 = .ok (.iconst (-1), 1) := by decide +kernel
theorem d_D_stepOnce_22 : decode b_D_stepOnce 22 = .ok (.if_icmp .ne 9, 3) := by decide +kernel
theorem d_D_stepOnce_25 : decode b_D_stepOnce 25 = .ok (.aload_n 0, 1) := by decide +kernel
theorem d_D_stepOnce_26 : decode b_D_stepOnce 26 = .ok (.aload_n 1, 1) := by decide +kernel
theorem d_D_stepOnce_27 : decode b_D_stepOnce 27 = .ok (.invokevirtual 226, 3) := by decide +kernel
theorem d_D_stepOnce_30 : decode b_D_stepOnce 30 = .ok (.return_, 1) := by decide +kernel
theorem d_D_stepOnce_31 : decode b_D_stepOnce 31 = .ok (.aload_n 2, 1) := by decide +kernel
theorem d_D_stepOnce_32 : decode b_D_stepOnce 32 = .ok (.invokevirtual 229, 3) := by decide +kernel
theorem d_D_stepOnce_35 : decode b_D_stepOnce 35 = .ok (.istore 4, 2) := by decide +kernel
theorem d_D_stepOnce_37 : decode b_D_stepOnce 37 = .ok (.aload_n 2, 1) := by decide +kernel
theorem d_D_stepOnce_38 : decode b_D_stepOnce 38 = .ok (.dup, 1) := by decide +kernel
theorem d_D_stepOnce_39 : decode b_D_stepOnce 39 = .ok (.getfield 195, 3) := by decide +kernel
theorem d_D_stepOnce_42 : decode b_D_stepOnce 42 = .ok (.iconst 1, 1) := by decide +kernel
theorem d_D_stepOnce_43 : decode b_D_stepOnce 43 = .ok (.iadd, 1) := by decide +kernel
theorem d_D_stepOnce_44 : decode b_D_stepOnce 44 = .ok (.putfield 195, 3) := by decide +kernel
theorem d_D_stepOnce_47 : decode b_D_stepOnce 47 = .ok (.iload_n 3, 1) := by decide +kernel
theorem d_D_stepOnce_48 : decode b_D_stepOnce 48 = .ok (.tableswitch 99 0 5 #[40, 54, 99, 64, 73, 80], 40) := by decide +kernel
theorem d_D_stepOnce_88 : decode b_D_stepOnce 88 = .ok (.aload_n 1, 1) := by decide +kernel
theorem d_D_stepOnce_89 : decode b_D_stepOnce 89 = .ok (.dup, 1) := by decide +kernel
theorem d_D_stepOnce_90 : decode b_D_stepOnce 90 = .ok (.getfield 165, 3) := by decide +kernel
theorem d_D_stepOnce_93 : decode b_D_stepOnce 93 = .ok (.iload 4, 2) := by decide +kernel
theorem d_D_stepOnce_95 : decode b_D_stepOnce 95 = .ok (.iadd, 1) := by decide +kernel
theorem d_D_stepOnce_96 : decode b_D_stepOnce 96 = .ok (.putfield 165, 3) := by decide +kernel
theorem d_D_stepOnce_99 : decode b_D_stepOnce 99 = .ok (.goto 48, 3) := by decide +kernel
theorem d_D_stepOnce_102 : decode b_D_stepOnce 102 = .ok (.aload_n 0, 1) := by decide +kernel
theorem d_D_stepOnce_103 : decode b_D_stepOnce 103 = .ok (.aload_n 1, 1) := by decide +kernel
theorem d_D_stepOnce_104 : decode b_D_stepOnce 104 = .ok (.iload 4, 2) := by decide +kernel
theorem d_D_stepOnce_106 : decode b_D_stepOnce 106 = .ok (.invokevirtual 232, 3) := by decide +kernel
theorem d_D_stepOnce_109 : decode b_D_stepOnce 109 = .ok (.goto 38, 3) := by decide +kernel
theorem d_D_stepOnce_112 : decode b_D_stepOnce 112 = .ok (.aload_n 2, 1) := by decide +kernel
theorem d_D_stepOnce_113 : decode b_D_stepOnce 113 = .ok (.iload 4, 2) := by decide +kernel
theorem d_D_stepOnce_115 : decode b_D_stepOnce 115 = .ok (.invokevirtual 236, 3) := by decide +kernel
theorem d_D_stepOnce_118 : decode b_D_stepOnce 118 = .ok (.goto 29, 3) := by decide +kernel
theorem d_D_stepOnce_121 : decode b_D_stepOnce 121 = .ok (.aload_n 1, 1) := by decide +kernel
theorem d_D_stepOnce_122 : decode b_D_stepOnce 122 = .ok (.invokevirtual 239, 3) := by decide +kernel
theorem d_D_stepOnce_125 : decode b_D_stepOnce 125 = .ok (.goto 22, 3) := by decide +kernel
theorem d_D_stepOnce_128 : decode b_D_stepOnce 128 = .ok (.aload_n 1, 1) := by decide +kernel
theorem d_D_stepOnce_129 : decode b_D_stepOnce 129 = .ok (.getfield 165, 3) := by decide +kernel
theorem d_D_stepOnce_132 : decode b_D_stepOnce 132 = .ok (.iconst 2, 1) := by decide +kernel
theorem d_D_stepOnce_133 : decode b_D_stepOnce 133 = .ok (.irem, 1) := by decide +kernel
theorem d_D_stepOnce_134 : decode b_D_stepOnce 134 = .ok (.ifCond .ne 13, 3) := by decide +kernel
theorem d_D_stepOnce_137 : decode b_D_stepOnce 137 = .ok (.aload_n 0, 1) := by decide +kernel
theorem d_D_stepOnce_138 : decode b_D_stepOnce 138 = .ok (.aload_n 1, 1) := by decide +kernel
theorem d_D_stepOnce_139 : decode b_D_stepOnce 139 = .ok (.iload 4, 2) := by decide +kernel
theorem d_D_stepOnce_141 : decode b_D_stepOnce 141 = .ok (.invokevirtual 232, 3) := by decide +kernel
theorem d_D_stepOnce_144 : decode b_D_stepOnce 144 = .ok (.goto 3, 3) := by decide +kernel
theorem d_D_stepOnce_147 : decode b_D_stepOnce 147 = .ok (.return_, 1) := by decide +kernel
theorem d_D_leaveTopFrame_0 : decode b_D_leaveTopFrame 0 = .ok (.aload_n 1, 1) := by decide +kernel
theorem d_D_leaveTopFrame_1 : decode b_D_leaveTopFrame 1 = .ok (.getfield 168, 3) := by decide +kernel
theorem d_D_leaveTopFrame_4 : decode b_D_leaveTopFrame 4 = .ok (.iconst 1, 1) := by decide +kernel
theorem d_D_leaveTopFrame_5 : decode b_D_leaveTopFrame 5 = .ok (.if_icmp .le 16, 3) := by decide +kernel
theorem d_D_leaveTopFrame_8 : decode b_D_leaveTopFrame 8 = .ok (.aload_n 1, 1) := by decide +kernel
theorem d_D_leaveTopFrame_9 : decode b_D_leaveTopFrame 9 = .ok (.dup, 1) := by decide +kernel
theorem d_D_leaveTopFrame_10 : decode b_D_leaveTopFrame 10 = .ok (.getfield 168, 3) := by decide +kernel
theorem d_D_leaveTopFrame_13 : decode b_D_leaveTopFrame 13 = .ok (.iconst 1, 1) := by decide +kernel
theorem d_D_leaveTopFrame_14 : decode b_D_leaveTopFrame 14 = .ok (.isub, 1) := by decide +kernel
theorem d_D_leaveTopFrame_15 : decode b_D_leaveTopFrame 15 = .ok (.putfield 168, 3) := by decide +kernel
theorem d_D_leaveTopFrame_18 : decode b_D_leaveTopFrame 18 = .ok (.goto 32, 3) := by decide +kernel
theorem d_D_leaveTopFrame_21 : decode b_D_leaveTopFrame 21 = .ok (.aload_n 1, 1) := by decide +kernel
theorem d_D_leaveTopFrame_22 : decode b_D_leaveTopFrame 22 = .ok (.invokevirtual 213, 3) := by decide +kernel
theorem d_D_leaveTopFrame_25 : decode b_D_leaveTopFrame 25 = .ok (.getfield 189, 3) := by decide +kernel
theorem d_D_leaveTopFrame_28 : decode b_D_leaveTopFrame 28 = .ok (.istore_n 2, 1) := by decide +kernel
theorem d_D_leaveTopFrame_29 : decode b_D_leaveTopFrame 29 = .ok (.aload_n 1, 1) := by decide +kernel
theorem d_D_leaveTopFrame_30 : decode b_D_leaveTopFrame 30 = .ok (.invokevirtual 213, 3) := by decide +kernel
theorem d_D_leaveTopFrame_33 : decode b_D_leaveTopFrame 33 = .ok (.iload_n 2, 1) := by decide +kernel
theorem d_D_leaveTopFrame_34 : decode b_D_leaveTopFrame 34 = .ok (.aload_n 1, 1) := by decide +kernel
theorem d_D_leaveTopFrame_35 : decode b_D_leaveTopFrame 35 = .ok (.getfield 153, 3) := by decide +kernel
theorem d_D_leaveTopFrame_38 : decode b_D_leaveTopFrame 38 = .ok (.aload_n 0, 1) := by decide +kernel
theorem d_D_leaveTopFrame_39 : decode b_D_leaveTopFrame 39 = .ok (.iload_n 2, 1) := by decide +kernel
theorem d_D_leaveTopFrame_40 : decode b_D_leaveTopFrame 40 = .ok (.aload_n 1, 1) := by decide +kernel
theorem d_D_leaveTopFrame_41 : decode b_D_leaveTopFrame 41 = .ok (.getfield 153, 3) := by decide +kernel
theorem d_D_leaveTopFrame_44 : decode b_D_leaveTopFrame 44 = .ok (.invokevirtual 137, 3) := by decide +kernel
theorem d_D_leaveTopFrame_47 : decode b_D_leaveTopFrame 47 = .ok (.invokevirtual 242, 3) := by decide +kernel
theorem d_D_leaveTopFrame_50 : decode b_D_leaveTopFrame 50 = .ok (.return_, 1) := by decide +kernel
theorem d_D_enter_0 : decode b_D_enter 0 = .ok (.aload_n 1, 1) := by decide +kernel
theorem d_D_enter_1 : decode b_D_enter 1 = .ok (.getfield 168, 3) := by decide +kernel
theorem d_D_enter_4 : decode b_D_enter 4 = .ok (.bipush 6, 2) := by decide +kernel
theorem d_D_enter_6 : decode b_D_enter 6 = .ok (.if_icmp .ge 34, 3) := by decide +kernel
theorem d_D_enter_9 : decode b_D_enter 9 = .ok (.aload_n 1, 1) := by decide +kernel
theorem d_D_enter_10 : decode b_D_enter 10 = .ok (.dup, 1) := by decide +kernel
theorem d_D_enter_11 : decode b_D_enter 11 = .ok (.getfield 168, 3) := by decide +kernel
theorem d_D_enter_14 : decode b_D_enter 14 = .ok (.iconst 1, 1) := by decide +kernel
theorem d_D_enter_15 : decode b_D_enter 15 = .ok (.iadd, 1) := by decide +kernel
theorem d_D_enter_16 : decode b_D_enter 16 = .ok (.putfield 168, 3) := by decide +kernel
theorem d_D_enter_19 : decode b_D_enter 19 = .ok (.aload_n 1, 1) := by decide +kernel
theorem d_D_enter_20 : decode b_D_enter 20 = .ok (.invokevirtual 213, 3) := by decide +kernel
theorem d_D_enter_23 : decode b_D_enter 23 = .ok (.iload_n 2, 1) := by decide +kernel
theorem d_D_enter_24 : decode b_D_enter 24 = .ok (.aload_n 1, 1) := by decide +kernel
theorem d_D_enter_25 : decode b_D_enter 25 = .ok (.getfield 153, 3) := by decide +kernel
theorem d_D_enter_28 : decode b_D_enter 28 = .ok (.aload_n 0, 1) := by decide +kernel
theorem d_D_enter_29 : decode b_D_enter 29 = .ok (.iload_n 2, 1) := by decide +kernel
theorem d_D_enter_30 : decode b_D_enter 30 = .ok (.aload_n 1, 1) := by decide +kernel
theorem d_D_enter_31 : decode b_D_enter 31 = .ok (.getfield 153, 3) := by decide +kernel
theorem d_D_enter_34 : decode b_D_enter 34 = .ok (.invokevirtual 137, 3) := by decide +kernel
theorem d_D_enter_37 : decode b_D_enter 37 = .ok (.invokevirtual 242, 3) := by decide +kernel
theorem d_D_enter_40 : decode b_D_enter 40 = .ok (.return_, 1) := by decide +kernel
theorem d_D_look_0 : decode b_D_look 0 = .ok (.aload_n 0, 1) := by decide +kernel
theorem d_D_look_1 : decode b_D_look 1 = .ok (.iload_n 1, 1) := by decide +kernel
theorem d_D_look_2 : decode b_D_look 2 = .ok (.invokevirtual 144, 3) := by decide +kernel
theorem d_D_look_5 : decode b_D_look 5 = .ok (.ifCond .eq 12, 3) := by decide +kernel
theorem d_D_look_8 : decode b_D_look 8 = .ok (.iload_n 2, 1) := by decide +kernel
theorem d_D_look_9 : decode b_D_look 9 = .ok (.ifCond .lt 8, 3) := by decide +kernel
theorem d_D_look_12 : decode b_D_look 12 = .ok (.iload_n 2, 1) := by decide +kernel
theorem d_D_look_13 : decode b_D_look 13 = .ok (.iconst 5, 1) := by decide +kernel
theorem d_D_look_14 : decode b_D_look 14 = .ok (.if_icmp .le 13, 3) := by decide +kernel
theorem d_D_look_17 : decode b_D_look 17 = .ok (.new 37, 3) := by decide +kernel
theorem d_D_look_20 : decode b_D_look 20 = .ok (.dup, 1) := by decide +kernel
theorem d_D_look_21 : decode b_D_look 21 = .ok (.ldc 163, 2) := by decide +kernel
theorem d_D_look_23 : decode b_D_look 23 = .ok (.invokespecial 41, 3) := by decide +kernel
theorem d_D_look_26 : decode b_D_look 26 = .ok (.athrow, 1) := by decide +kernel
theorem d_D_look_27 : decode b_D_look 27 = .ok (.aload_n 0, 1) := by decide +kernel
theorem d_D_look_28 : decode b_D_look 28 = .ok (.getfield 19, 3) := by decide +kernel
theorem d_D_look_31 : decode b_D_look 31 = .ok (.iload_n 1, 1) := by decide +kernel
theorem d_D_look_32 : decode b_D_look 32 = .ok (.invokevirtual 78, 3) := by decide +kernel
theorem d_D_look_35 : decode b_D_look 35 = .ok (.checkcast 135, 3) := by decide +kernel
theorem d_D_look_38 : decode b_D_look 38 = .ok (.astore_n 3, 1) := by decide +kernel
theorem d_D_look_39 : decode b_D_look 39 = .ok (.iload_n 2, 1) := by decide +kernel
theorem d_D_look_40 : decode b_D_look 40 = .ok (.tableswitch 61 0 4 #[36, 41, 46, 51, 56], 36) := by decide +kernel
theorem d_D_look_76 : decode b_D_look 76 = .ok (.aload_n 3, 1) := by decide +kernel
theorem d_D_look_77 : decode b_D_look 77 = .ok (.getfield 153, 3) := by decide +kernel
theorem d_D_look_80 : decode b_D_look 80 = .ok (.ireturn, 1) := by decide +kernel
theorem d_D_look_81 : decode b_D_look 81 = .ok (.aload_n 3, 1) := by decide +kernel
theorem d_D_look_82 : decode b_D_look 82 = .ok (.getfield 165, 3) := by decide +kernel
theorem d_D_look_85 : decode b_D_look 85 = .ok (.ireturn, 1) := by decide +kernel
theorem d_D_look_86 : decode b_D_look 86 = .ok (.aload_n 3, 1) := by decide +kernel
theorem d_D_look_87 : decode b_D_look 87 = .ok (.getfield 168, 3) := by decide +kernel
theorem d_D_look_90 : decode b_D_look 90 = .ok (.ireturn, 1) := by decide +kernel
theorem d_D_look_91 : decode b_D_look 91 = .ok (.aload_n 3, 1) := by decide +kernel
theorem d_D_look_92 : decode b_D_look 92 = .ok (.getfield 171, 3) := by decide +kernel
theorem d_D_look_95 : decode b_D_look 95 = .ok (.ireturn, 1) := by decide +kernel
theorem d_D_look_96 : decode b_D_look 96 = .ok (.aload_n 3, 1) := by decide +kernel
theorem d_D_look_97 : decode b_D_look 97 = .ok (.getfield 174, 3) := by decide +kernel
theorem d_D_look_100 : decode b_D_look 100 = .ok (.ireturn, 1) := by decide +kernel
theorem d_D_look_101 : decode b_D_look 101 = .ok (.aload_n 3, 1) := by decide +kernel
theorem d_D_look_102 : decode b_D_look 102 = .ok (.getfield 177, 3) := by decide +kernel
theorem d_D_look_105 : decode b_D_look 105 = .ok (.ireturn, 1) := by decide +kernel
theorem d_D_frame_0 : decode b_D_frame 0 = .ok (.aload_n 0, 1) := by decide +kernel
theorem d_D_frame_1 : decode b_D_frame 1 = .ok (.iload_n 1, 1) := by decide +kernel
theorem d_D_frame_2 : decode b_D_frame 2 = .ok (.invokevirtual 144, 3) := by decide +kernel
theorem d_D_frame_5 : decode b_D_frame 5 = .ok (.ifCond .eq 12, 3) := by decide +kernel
theorem d_D_frame_8 : decode b_D_frame 8 = .ok (.iload_n 3, 1) := by decide +kernel
theorem d_D_frame_9 : decode b_D_frame 9 = .ok (.ifCond .lt 8, 3) := by decide +kernel
theorem d_D_frame_12 : decode b_D_frame 12 = .ok (.iload_n 3, 1) := by decide +kernel
theorem d_D_frame_13 : decode b_D_frame 13 = .ok (.iconst 2, 1) := by decide +kernel
theorem d_D_frame_14 : decode b_D_frame 14 = .ok (.if_icmp .le 13, 3) := by decide +kernel
theorem d_D_frame_17 : decode b_D_frame 17 = .ok (.new 37, 3) := by decide +kernel
theorem d_D_frame_20 : decode b_D_frame 20 = .ok (.dup, 1) := by decide +kernel
theorem d_D_frame_21 : decode b_D_frame 21 = .ok (.ldc 163, 2) := by decide +kernel
theorem d_D_frame_23 : decode b_D_frame 23 = .ok (.invokespecial 41, 3) := by decide +kernel
theorem d_D_frame_26 : decode b_D_frame 26 = .ok (.athrow, 1) := by decide +kernel
theorem d_D_frame_27 : decode b_D_frame 27 = .ok (.aload_n 0, 1) := by decide +kernel
theorem d_D_frame_28 : decode b_D_frame 28 = .ok (.getfield 19, 3) := by decide +kernel
theorem d_D_frame_31 : decode b_D_frame 31 = .ok (.iload_n 1, 1) := by decide +kernel
theorem d_D_frame_32 : decode b_D_frame 32 = .ok (.invokevirtual 78, 3) := by decide +kernel
theorem d_D_frame_35 : decode b_D_frame 35 = .ok (.checkcast 135, 3) := by decide +kernel
theorem d_D_frame_38 : decode b_D_frame 38 = .ok (.astore 4, 2) := by decide +kernel
theorem d_D_frame_40 : decode b_D_frame 40 = .ok (.iload_n 2, 1) := by decide +kernel
theorem d_D_frame_41 : decode b_D_frame 41 = .ok (.ifCond .lt 12, 3) := by decide +kernel
theorem d_D_frame_44 : decode b_D_frame 44 = .ok (.iload_n 2, 1) := by decide +kernel
theorem d_D_frame_45 : decode b_D_frame 45 = .ok (.aload 4, 2) := by decide +kernel
theorem d_D_frame_47 : decode b_D_frame 47 = .ok (.getfield 168, 3) := by decide +kernel
theorem d_D_frame_50 : decode b_D_frame 50 = .ok (.if_icmp .lt 13, 3) := by decide +kernel
theorem d_D_frame_53 : decode b_D_frame 53 = .ok (.new 180, 3) := by decide +kernel
theorem d_D_frame_56 : decode b_D_frame 56 = .ok (.dup, 1) := by decide +kernel
theorem d_D_frame_57 : decode b_D_frame 57 = .ok (.ldc 182, 2) := by decide +kernel
theorem d_D_frame_59 : decode b_D_frame 59 = .ok (.invokespecial 184, 3) := by decide +kernel
theorem d_D_frame_62 : decode b_D_frame 62 = .ok (.athrow, 1) := by decide +kernel
theorem d_D_frame_63 : decode b_D_frame 63 = .ok (.aload 4, 2) := by decide +kernel
theorem d_D_frame_65 : decode b_D_frame 65 = .ok (.getfield 185, 3) := by decide +kernel
theorem d_D_frame_68 : decode b_D_frame 68 = .ok (.iload_n 2, 1) := by decide +kernel
theorem d_D_frame_69 : decode b_D_frame 69 = .ok (.aaload, 1) := by decide +kernel
theorem d_D_frame_70 : decode b_D_frame 70 = .ok (.astore 5, 2) := by decide +kernel
theorem d_D_frame_72 : decode b_D_frame 72 = .ok (.iload_n 3, 1) := by decide +kernel
theorem d_D_frame_73 : decode b_D_frame 73 = .ok (.lookupswitch 39 #[(0, 27), (1, 33)], 27) := by decide +kernel
theorem d_D_frame_100 : decode b_D_frame 100 = .ok (.aload 5, 2) := by decide +kernel
theorem d_D_frame_102 : decode b_D_frame 102 = .ok (.getfield 189, 3) := by decide +kernel
theorem d_D_frame_105 : decode b_D_frame 105 = .ok (.ireturn, 1) := by decide +kernel
theorem d_D_frame_106 : decode b_D_frame 106 = .ok (.aload 5, 2) := by decide +kernel
theorem d_D_frame_108 : decode b_D_frame 108 = .ok (.getfield 194, 3) := by decide +kernel
theorem d_D_frame_111 : decode b_D_frame 111 = .ok (.ireturn, 1) := by decide +kernel
theorem d_D_frame_112 : decode b_D_frame 112 = .ok (.aload 5, 2) := by decide +kernel
theorem d_D_frame_114 : decode b_D_frame 114 = .ok (.getfield 195, 3) := by decide +kernel
theorem d_D_frame_117 : decode b_D_frame 117 = .ok (.ireturn, 1) := by decide +kernel
theorem d_D_body_0 : decode b_D_body 0 = .ok (.aload_n 0, 1) := by decide +kernel
theorem d_D_body_1 : decode b_D_body 1 = .ok (.iload_n 1, 1) := by decide +kernel
theorem d_D_body_2 : decode b_D_body 2 = .ok (.invokevirtual 66, 3) := by decide +kernel
theorem d_D_body_5 : decode b_D_body 5 = .ok (.ifCond .ne 13, 3) := by decide +kernel
theorem d_D_body_8 : decode b_D_body 8 = .ok (.new 37, 3) := by decide +kernel
theorem d_D_body_11 : decode b_D_body 11 = .ok (.dup, 1) := by decide +kernel
theorem d_D_body_12 : decode b_D_body 12 = .ok (.ldc 131, 2) := by decide +kernel
theorem d_D_body_14 : decode b_D_body 14 = .ok (.invokespecial 41, 3) := by decide +kernel
theorem d_D_body_17 : decode b_D_body 17 = .ok (.athrow, 1) := by decide +kernel
theorem d_D_body_18 : decode b_D_body 18 = .ok (.iload_n 2, 1) := by decide +kernel
theorem d_D_body_19 : decode b_D_body 19 = .ok (.ifCond .lt 14, 3) := by decide +kernel
theorem d_D_body_22 : decode b_D_body 22 = .ok (.iload_n 2, 1) := by decide +kernel
theorem d_D_body_23 : decode b_D_body 23 = .ok (.aload_n 0, 1) := by decide +kernel
theorem d_D_body_24 : decode b_D_body 24 = .ok (.getfield 16, 3) := by decide +kernel
theorem d_D_body_27 : decode b_D_body 27 = .ok (.invokevirtual 44, 3) := by decide +kernel
theorem d_D_body_30 : decode b_D_body 30 = .ok (.if_icmp .le 13, 3) := by decide +kernel
theorem d_D_body_33 : decode b_D_body 33 = .ok (.new 180, 3) := by decide +kernel
theorem d_D_body_36 : decode b_D_body 36 = .ok (.dup, 1) := by decide +kernel
theorem d_D_body_37 : decode b_D_body 37 = .ok (.ldc 198, 2) := by decide +kernel
theorem d_D_body_39 : decode b_D_body 39 = .ok (.invokespecial 184, 3) := by decide +kernel
theorem d_D_body_42 : decode b_D_body 42 = .ok (.athrow, 1) := by decide +kernel
theorem d_D_body_43 : decode b_D_body 43 = .ok (.aload_n 0, 1) := by decide +kernel
theorem d_D_body_44 : decode b_D_body 44 = .ok (.iload_n 1, 1) := by decide +kernel
theorem d_D_body_45 : decode b_D_body 45 = .ok (.iload_n 2, 1) := by decide +kernel
theorem d_D_body_46 : decode b_D_body 46 = .ok (.invokevirtual 137, 3) := by decide +kernel
theorem d_D_body_49 : decode b_D_body 49 = .ok (.getfield 86, 3) := by decide +kernel
theorem d_D_body_52 : decode b_D_body 52 = .ok (.ireturn, 1) := by decide +kernel
end
section
theorem d_M_init_0 : decode b_M_init 0 = .ok (.aload_n 0, 1) := by decide +kernel
theorem d_M_init_1 : decode b_M_init 1 = .ok (.invokespecial 1, 3) := by decide +kernel
theorem d_M_init_4 : decode b_M_init 4 = .ok (.aload_n 0, 1) := by decide +kernel
theorem d_M_init_5 : decode b_M_init 5 = .ok (.bipush 56, 2) := by decide +kernel
theorem d_M_init_7 : decode b_M_init 7 = .ok (.newarray .boolean, 2) := by decide +kernel
theorem d_M_init_9 : decode b_M_init 9 = .ok (.putfield 7, 3) := by decide +kernel
theorem d_M_init_12 : decode b_M_init 12 = .ok (.aload_n 0, 1) := by decide +kernel
theorem d_M_init_13 : decode b_M_init 13 = .ok (.bipush 56, 2) := by decide +kernel
theorem d_M_init_15 : decode b_M_init 15 = .ok (.newarray .int, 2) := by decide +kernel
theorem d_M_init_17 : decode b_M_init 17 = .ok (.putfield 13, 3) := by decide +kernel
theorem d_M_init_20 : decode b_M_init 20 = .ok (.aload_n 0, 1) := by decide +kernel
theorem d_M_init_21 : decode b_M_init 21 = .ok (.bipush 56, 2) := by decide +kernel
theorem d_M_init_23 : decode b_M_init 23 = .ok (.newarray .int, 2) := by decide +kernel
theorem d_M_init_25 : decode b_M_init 25 = .ok (.putfield 17, 3) := by decide +kernel
theorem d_M_init_28 : decode b_M_init 28 = .ok (.aload_n 0, 1) := by decide +kernel
theorem d_M_init_29 : decode b_M_init 29 = .ok (.sipush 672, 3) := by decide +kernel
theorem d_M_init_32 : decode b_M_init 32 = .ok (.newarray .int, 2) := by decide +kernel
theorem d_M_init_34 : decode b_M_init 34 = .ok (.putfield 20, 3) := by decide +kernel
theorem d_M_init_37 : decode b_M_init 37 = .ok (.aload_n 0, 1) := by decide +kernel
theorem d_M_init_38 : decode b_M_init 38 = .ok (.sipush 672, 3) := by decide +kernel
theorem d_M_init_41 : decode b_M_init 41 = .ok (.newarray .int, 2) := by decide +kernel
theorem d_M_init_43 : decode b_M_init 43 = .ok (.putfield 23, 3) := by decide +kernel
theorem d_M_init_46 : decode b_M_init 46 = .ok (.aload_n 0, 1) := by decide +kernel
theorem d_M_init_47 : decode b_M_init 47 = .ok (.iconst (-1), 1) := by decide +kernel
theorem d_M_init_48 : decode b_M_init 48 = .ok (.putfield 26, 3) := by decide +kernel
theorem d_M_init_51 : decode b_M_init 51 = .ok (.aload_n 0, 1) := by decide +kernel
theorem d_M_init_52 : decode b_M_init 52 = .ok (.iconst 4, 1) := by decide +kernel
theorem d_M_init_53 : decode b_M_init 53 = .ok (.newarray .int, 2) := by decide +kernel
theorem d_M_init_55 : decode b_M_init 55 = .ok (.putfield 30, 3) := by decide +kernel
theorem d_M_init_58 : decode b_M_init 58 = .ok (.aload_n 0, 1) := by decide +kernel
theorem d_M_init_59 : decode b_M_init 59 = .ok (.iconst 4, 1) := by decide +kernel
theorem d_M_init_60 : decode b_M_init 60 = .ok (.newarray .int, 2) := by decide +kernel
theorem d_M_init_62 : decode b_M_init 62 = .ok (.putfield 33, 3) := by decide +kernel
theorem d_M_init_65 : decode b_M_init 65 = .ok (.aload_n 0, 1) := by decide +kernel
theorem d_M_init_66 : decode b_M_init 66 = .ok (.iconst 4, 1) := by decide +kernel
theorem d_M_init_67 : decode b_M_init 67 = .ok (.newarray .int, 2) := by decide +kernel
theorem d_M_init_69 : decode b_M_init 69 = .ok (.putfield 36, 3) := by decide +kernel
theorem d_M_init_72 : decode b_M_init 72 = .ok (.aload_n 0, 1) := by decide +kernel
theorem d_M_init_73 : decode b_M_init 73 = .ok (.iconst 4, 1) := by decide +kernel
theorem d_M_init_74 : decode b_M_init 74 = .ok (.newarray .int, 2) := by decide +kernel
theorem d_M_init_76 : decode b_M_init 76 = .ok (.putfield 39, 3) := by decide +kernel
theorem d_M_init_79 : decode b_M_init 79 = .ok (.aload_n 0, 1) := by decide +kernel
theorem d_M_init_80 : decode b_M_init 80 = .ok (.iconst 4, 1) := by decide +kernel
theorem d_M_init_81 : decode b_M_init 81 = .ok (.newarray .int, 2) := by decide +kernel
theorem d_M_init_83 : decode b_M_init 83 = .ok (.putfield 42, 3) := by decide +kernel
theorem d_M_init_86 : decode b_M_init 86 = .ok (.aload_n 0, 1) := by decide +kernel
theorem d_M_init_87 : decode b_M_init 87 = .ok (.iconst 4, 1) := by decide +kernel
theorem d_M_init_88 : decode b_M_init 88 = .ok (.newarray .int, 2) := by decide +kernel
theorem d_M_init_90 : decode b_M_init 90 = .ok (.putfield 45, 3) := by decide +kernel
theorem d_M_init_93 : decode b_M_init 93 = .ok (.aload_n 0, 1) := by decide +kernel
theorem d_M_init_94 : decode b_M_init 94 = .ok (.iconst 4, 1) := by decide +kernel
theorem d_M_init_95 : decode b_M_init 95 = .ok (.newarray .int, 2) := by decide +kernel
theorem d_M_init_97 : decode b_M_init 97 = .ok (.putfield 48, 3) := by decide +kernel
theorem d_M_init_100 : decode b_M_init 100 = .ok (.aload_n 0, 1) := by decide +kernel
theorem d_M_init_101 : decode b_M_init 101 = .ok (.bipush 24, 2) := by decide +kernel
theorem d_M_init_103 : decode b_M_init 103 = .ok (.newarray .int, 2) := by decide +kernel
theorem d_M_init_105 : decode b_M_init 105 = .ok (.putfield 51, 3) := by decide +kernel
theorem d_M_init_108 : decode b_M_init 108 = .ok (.aload_n 0, 1) := by decide +kernel
theorem d_M_init_109 : decode b_M_init 109 = .ok (.bipush 24, 2) := by decide +kernel
theorem d_M_init_111 : decode b_M_init 111 = .ok (.newarray .int, 2) := by decide +kernel
theorem d_M_init_113 : decode b_M_init 113 = .ok (.putfield 54, 3) := by decide +kernel
theorem d_M_init_116 : decode b_M_init 116 = .ok (.aload_n 0, 1) := by decide +kernel
theorem d_M_init_117 : decode b_M_init 117 = .ok (.bipush 24, 2) := by decide +kernel
theorem d_M_init_119 : decode b_M_init 119 = .ok (.newarray .int, 2) := by decide +kernel
theorem d_M_init_121 : decode b_M_init 121 = .ok (.putfield 57, 3) := by decide +kernel
theorem d_M_init_124 : decode b_M_init 124 = .ok (.aload_n 0, 1) := by decide +kernel
theorem d_M_init_125 : decode b_M_init 125 = .ok (.bipush 24, 2) := by decide +kernel
theorem d_M_init_127 : decode b_M_init 127 = .ok (.newarray .int, 2) := by decide +kernel
theorem d_M_init_129 : decode b_M_init 129 = .ok (.putfield 60, 3) := by decide +kernel
theorem d_M_init_132 : decode b_M_init 132 = .ok (.return_, 1) := by decide +kernel
theorem d_M_thrown_0 : decode b_M_thrown 0 = .ok (.aload_n 0, 1) := by decide +kernel
theorem d_M_thrown_1 : decode b_M_thrown 1 = .ok (.getfield 63, 3) := by decide +kernel
theorem d_M_thrown_4 : decode b_M_thrown 4 = .ok (.ireturn, 1) := by decide +kernel
theorem d_M_function_0 : decode b_M_function 0 = .ok (.aload_n 0, 1) := by decide +kernel
theorem d_M_function_1 : decode b_M_function 1 = .ok (.iload_n 1, 1) := by decide +kernel
theorem d_M_function_2 : decode b_M_function 2 = .ok (.iconst 0, 1) := by decide +kernel
theorem d_M_function_3 : decode b_M_function 3 = .ok (.bipush 9, 2) := by decide +kernel
theorem d_M_function_5 : decode b_M_function 5 = .ok (.invokestatic 72, 3) := by decide +kernel
theorem d_M_function_8 : decode b_M_function 8 = .ok (.ifCond .ne 7, 3) := by decide +kernel
theorem d_M_function_11 : decode b_M_function 11 = .ok (.iconst 1, 1) := by decide +kernel
theorem d_M_function_12 : decode b_M_function 12 = .ok (.goto 24, 3) := by decide +kernel
theorem d_M_function_15 : decode b_M_function 15 = .ok (.aload_n 0, 1) := by decide +kernel
theorem d_M_function_16 : decode b_M_function 16 = .ok (.getfield 76, 3) := by decide +kernel
theorem d_M_function_19 : decode b_M_function 19 = .ok (.bipush 8, 2) := by decide +kernel
theorem d_M_function_21 : decode b_M_function 21 = .ok (.if_icmp .eq 10, 3) := by decide +kernel
theorem d_M_function_24 : decode b_M_function 24 = .ok (.aload_n 0, 1) := by decide +kernel
theorem d_M_function_25 : decode b_M_function 25 = .ok (.invokevirtual 79, 3) := by decide +kernel
theorem d_M_function_28 : decode b_M_function 28 = .ok (.ifCond .ne 7, 3) := by decide +kernel
theorem d_M_function_31 : decode b_M_function 31 = .ok (.iconst 2, 1) := by decide +kernel
theorem d_M_function_32 : decode b_M_function 32 = .ok (.goto 4, 3) := by decide +kernel
theorem d_M_function_35 : decode b_M_function 35 = .ok (.iconst 0, 1) := by decide +kernel
theorem d_M_function_36 : decode b_M_function 36 = .ok (.putfield 63, 3) := by decide +kernel
theorem d_M_function_39 : decode b_M_function 39 = .ok (.aload_n 0, 1) := by decide +kernel
theorem d_M_function_40 : decode b_M_function 40 = .ok (.getfield 63, 3) := by decide +kernel
theorem d_M_function_43 : decode b_M_function 43 = .ok (.ifCond .le 5, 3) := by decide +kernel
theorem d_M_function_46 : decode b_M_function 46 = .ok (.iconst 0, 1) := by decide +kernel
theorem d_M_function_47 : decode b_M_function 47 = .ok (.ireturn, 1) := by decide +kernel
theorem d_M_function_48 : decode b_M_function 48 = .ok (.aload_n 0, 1) := by decide +kernel
theorem d_M_function_49 : decode b_M_function 49 = .ok (.getfield 7, 3) := by decide +kernel
theorem d_M_function_52 : decode b_M_function 52 = .ok (.aload_n 0, 1) := by decide +kernel
theorem d_M_function_53 : decode b_M_function 53 = .ok (.getfield 76, 3) := by decide +kernel
theorem d_M_function_56 : decode b_M_function 56 = .ok (.iconst 1, 1) := by decide +kernel
theorem d_M_function_57 : decode b_M_function 57 = .ok (.bastore, 1) := by decide +kernel
theorem d_M_function_58 : decode b_M_function 58 = .ok (.aload_n 0, 1) := by decide +kernel
theorem d_M_function_59 : decode b_M_function 59 = .ok (.getfield 13, 3) := by decide +kernel
theorem d_M_function_62 : decode b_M_function 62 = .ok (.aload_n 0, 1) := by decide +kernel
theorem d_M_function_63 : decode b_M_function 63 = .ok (.getfield 76, 3) := by decide +kernel
theorem d_M_function_66 : decode b_M_function 66 = .ok (.iload_n 1, 1) := by decide +kernel
theorem d_M_function_67 : decode b_M_function 67 = .ok (.iastore, 1) := by decide +kernel
theorem d_M_function_68 : decode b_M_function 68 = .ok (.aload_n 0, 1) := by decide +kernel
theorem d_M_function_69 : decode b_M_function 69 = .ok (.getfield 17, 3) := by decide +kernel
theorem d_M_function_72 : decode b_M_function 72 = .ok (.aload_n 0, 1) := by decide +kernel
theorem d_M_function_73 : decode b_M_function 73 = .ok (.getfield 76, 3) := by decide +kernel
theorem d_M_function_76 : decode b_M_function 76 = .ok (.iconst 0, 1) := by decide +kernel
theorem d_M_function_77 : decode b_M_function 77 = .ok (.iastore, 1) := by decide +kernel
theorem d_M_function_78 : decode b_M_function 78 = .ok (.aload_n 0, 1) := by decide +kernel
theorem d_M_function_79 : decode b_M_function 79 = .ok (.dup, 1) := by decide +kernel
theorem d_M_function_80 : decode b_M_function 80 = .ok (.getfield 76, 3) := by decide +kernel
theorem d_M_function_83 : decode b_M_function 83 = .ok (.iconst 1, 1) := by decide +kernel
theorem d_M_function_84 : decode b_M_function 84 = .ok (.iadd, 1) := by decide +kernel
theorem d_M_function_85 : decode b_M_function 85 = .ok (.putfield 76, 3) := by decide +kernel
theorem d_M_function_88 : decode b_M_function 88 = .ok (.aload_n 0, 1) := by decide +kernel
theorem d_M_function_89 : decode b_M_function 89 = .ok (.getfield 76, 3) := by decide +kernel
theorem d_M_function_92 : decode b_M_function 92 = .ok (.iconst 1, 1) := by decide +kernel
theorem d_M_function_93 : decode b_M_function 93 = .ok (.isub, 1) := by decide +kernel
theorem d_M_function_94 : decode b_M_function 94 = .ok (.ireturn, 1) := by decide +kernel
theorem d_M_inn_0 : decode b_M_inn 0 = .ok (.iload_n 0, 1) := by decide +kernel
theorem d_M_inn_1 : decode b_M_inn 1 = .ok (.iload_n 1, 1) := by decide +kernel
theorem d_M_inn_2 : decode b_M_inn 2 = .ok (.if_icmp .lt 12, 3) := by decide +kernel
theorem d_M_inn_5 : decode b_M_inn 5 = .ok (.iload_n 0, 1) := by decide +kernel
theorem d_M_inn_6 : decode b_M_inn 6 = .ok (.iload_n 2, 1) := by decide +kernel
theorem d_M_inn_7 : decode b_M_inn 7 = .ok (.if_icmp .gt 7, 3) := by decide +kernel
theorem d_M_inn_10 : decode b_M_inn 10 = .ok (.iconst 1, 1) := by decide +kernel
theorem d_M_inn_11 : decode b_M_inn 11 = .ok (.goto 4, 3) := by decide +kernel
theorem d_M_inn_14 : decode b_M_inn 14 = .ok (.iconst 0, 1) := by decide +kernel
theorem d_M_inn_15 : decode b_M_inn 15 = .ok (.ireturn, 1) := by decide +kernel
theorem d_M_fresh_0 : decode b_M_fresh 0 = .ok (.aload_n 0, 1) := by decide +kernel
theorem d_M_fresh_1 : decode b_M_fresh 1 = .ok (.getfield 66, 3) := by decide +kernel
theorem d_M_fresh_4 : decode b_M_fresh 4 = .ok (.ifCond .ne 14, 3) := by decide +kernel
theorem d_M_fresh_7 : decode b_M_fresh 7 = .ok (.aload_n 0, 1) := by decide +kernel
theorem d_M_fresh_8 : decode b_M_fresh 8 = .ok (.getfield 69, 3) := by decide +kernel
theorem d_M_fresh_11 : decode b_M_fresh 11 = .ok (.ifCond .ne 7, 3) := by decide +kernel
theorem d_M_fresh_14 : decode b_M_fresh 14 = .ok (.iconst 1, 1) := by decide +kernel
theorem d_M_fresh_15 : decode b_M_fresh 15 = .ok (.goto 4, 3) := by decide +kernel
theorem d_M_fresh_18 : decode b_M_fresh 18 = .ok (.iconst 0, 1) := by decide +kernel
theorem d_M_fresh_19 : decode b_M_fresh 19 = .ok (.ireturn, 1) := by decide +kernel
theorem d_M_operation_0 : decode b_M_operation 0 = .ok (.iload_n 2, 1) := by decide +kernel
theorem d_M_operation_1 : decode b_M_operation 1 = .ok (.ifCond .eq 8, 3) := by decide +kernel
theorem d_M_operation_4 : decode b_M_operation 4 = .ok (.bipush 48, 2) := by decide +kernel
theorem d_M_operation_6 : decode b_M_operation 6 = .ok (.goto 4, 3) := by decide +kernel
theorem d_M_operation_9 : decode b_M_operation 9 = .ok (.iconst 0, 1) := by decide +kernel
theorem d_M_operation_10 : decode b_M_operation 10 = .ok (.iload_n 1, 1) := by decide +kernel
theorem d_M_operation_11 : decode b_M_operation 11 = .ok (.iadd, 1) := by decide +kernel
theorem d_M_operation_12 : decode b_M_operation 12 = .ok (.istore 5, 2) := by decide +kernel
theorem d_M_operation_14 : decode b_M_operation 14 = .ok (.iload_n 1, 1) := by decide +kernel
theorem d_M_operation_15 : decode b_M_operation 15 = .ok (.iconst 0, 1) := by decide +kernel
theorem d_M_operation_16 : decode b_M_operation 16 = .ok (.bipush 7, 2) := by decide +kernel
theorem d_M_operation_18 : decode b_M_operation 18 = .ok (.invokestatic 72, 3) := by decide +kernel
theorem d_M_operation_21 : decode b_M_operation 21 = .ok (.ifCond .eq 16, 3) := by decide +kernel
theorem d_M_operation_24 : decode b_M_operation 24 = .ok (.iload_n 3, 1) := by decide +kernel
theorem d_M_operation_25 : decode b_M_operation 25 = .ok (.iconst 0, 1) := by decide +kernel
theorem d_M_operation_26 : decode b_M_operation 26 = .ok (.iconst 5, 1) := by decide +kernel
theorem d_M_operation_27 : decode b_M_operation 27 = .ok (.invokestatic 72, 3) := by decide +kernel
theorem d_M_operation_30 : decode b_M_operation 30 = .ok (.ifCond .eq 7, 3) := by decide +kernel
theorem d_M_operation_33 : decode b_M_operation 33 = .ok (.iconst 1, 1) := by decide +kernel
theorem d_M_operation_34 : decode b_M_operation 34 = .ok (.goto 4, 3) := by decide +kernel
theorem d_M_operation_37 : decode b_M_operation 37 = .ok (.iconst 0, 1) := by decide +kernel
theorem d_M_operation_38 : decode b_M_operation 38 = .ok (.istore 6, 2) := by decide +kernel
theorem d_M_operation_40 : decode b_M_operation 40 = .ok (.iload 6, 2) := by decide +kernel
theorem d_M_operation_42 : decode b_M_operation 42 = .ok (.ifCond .eq 17, 3) := by decide +kernel
theorem d_M_operation_45 : decode b_M_operation 45 = .ok (.aload_n 0, 1) := by decide +kernel
theorem d_M_operation_46 : decode b_M_operation 46 = .ok (.getfield 7, 3) := by decide +kernel
theorem d_M_operation_49 : decode b_M_operation 49 = .ok (.iload 5, 2) := by decide +kernel
theorem d_M_operation_51 : decode b_M_operation 51 = .ok (.baload, 1) := by decide +kernel
theorem d_M_operation_52 : decode b_M_operation 52 = .ok (.ifCond .eq 7, 3) := by decide +kernel
theorem d_M_operation_55 : decode b_M_operation 55 = .ok (.iconst 1, 1) := by decide +kernel
theorem d_M_operation_56 : decode b_M_operation 56 = .ok (.goto 4, 3) := by decide +kernel
theorem d_M_operation_59 : decode b_M_operation 59 = .ok (.iconst 0, 1) := by decide +kernel
theorem d_M_operation_60 : decode b_M_operation 60 = .ok (.istore 6, 2) := by decide +kernel
theorem d_M_operation_62 : decode b_M_operation 62 = .ok (.iload 6, 2) := by decide +kernel
theorem d_M_operation_64 : decode b_M_operation 64 = .ok (.ifCond .eq 18, 3) := by decide +kernel
theorem d_M_operation_67 : decode b_M_operation 67 = .ok (.iload_n 3, 1) := by decide +kernel
theorem d_M_operation_68 : decode b_M_operation 68 = .ok (.ifCond .ne 14, 3) := by decide +kernel
theorem d_M_operation_71 : decode b_M_operation 71 = .ok (.iload 4, 2) := by decide +kernel
theorem d_M_operation_73 : decode b_M_operation 73 = .ok (.bipush (-99), 2) := by decide +kernel
theorem d_M_operation_75 : decode b_M_operation 75 = .ok (.bipush 99, 2) := by decide +kernel
theorem d_M_operation_77 : decode b_M_operation 77 = .ok (.invokestatic 72, 3) := by decide +kernel
theorem d_M_operation_80 : decode b_M_operation 80 = .ok (.istore 6, 2) := by decide +kernel
theorem d_M_operation_82 : decode b_M_operation 82 = .ok (.iload 6, 2) := by decide +kernel
theorem d_M_operation_84 : decode b_M_operation 84 = .ok (.ifCond .eq 27, 3) := by decide +kernel
theorem d_M_operation_87 : decode b_M_operation 87 = .ok (.iload_n 3, 1) := by decide +kernel
theorem d_M_operation_88 : decode b_M_operation 88 = .ok (.iconst 1, 1) := by decide +kernel
theorem d_M_operation_89 : decode b_M_operation 89 = .ok (.if_icmp .eq 8, 3) := by decide +kernel
theorem d_M_operation_92 : decode b_M_operation 92 = .ok (.iload_n 3, 1) := by decide +kernel
theorem d_M_operation_93 : decode b_M_operation 93 = .ok (.iconst 5, 1) := by decide +kernel
theorem d_M_operation_94 : decode b_M_operation 94 = .ok (.if_icmp .ne 17, 3) := by decide +kernel
theorem d_M_operation_97 : decode b_M_operation 97 = .ok (.iload 4, 2) := by decide +kernel
theorem d_M_operation_99 : decode b_M_operation 99 = .ok (.iconst 0, 1) := by decide +kernel
theorem d_M_operation_100 : decode b_M_operation 100 = .ok (.aload_n 0, 1) := by decide +kernel
theorem d_M_operation_101 : decode b_M_operation 101 = .ok (.getfield 76, 3) := by decide +kernel
theorem d_M_operation_104 : decode b_M_operation 104 = .ok (.iconst 1, 1) := by decide +kernel
theorem d_M_operation_105 : decode b_M_operation 105 = .ok (.isub, 1) := by decide +kernel
theorem d_M_operation_106 : decode b_M_operation 106 = .ok (.invokestatic 72, 3) := by decide +kernel
theorem d_M_operation_109 : decode b_M_operation 109 = .ok (.istore 6, 2) := by decide +kernel
theorem d_M_operation_111 : decode b_M_operation 111 = .ok (.iload 6, 2) := by decide +kernel
theorem d_M_operation_113 : decode b_M_operation 113 = .ok (.ifCond .eq 23, 3) := by decide +kernel
theorem d_M_operation_116 : decode b_M_operation 116 = .ok (.iload_n 3, 1) := by decide +kernel
theorem d_M_operation_117 : decode b_M_operation 117 = .ok (.iconst 3, 1) := by decide +kernel
theorem d_M_operation_118 : decode b_M_operation 118 = .ok (.if_icmp .ne 18, 3) := by decide +kernel
theorem d_M_operation_121 : decode b_M_operation 121 = .ok (.iload 4, 2) := by decide +kernel
theorem d_M_operation_123 : decode b_M_operation 123 = .ok (.iconst 0, 1) := by decide +kernel
theorem d_M_operation_124 : decode b_M_operation 124 = .ok (.aload_n 0, 1) := by decide +kernel
theorem d_M_operation_125 : decode b_M_operation 125 = .ok (.getfield 17, 3) := by decide +kernel
theorem d_M_operation_128 : decode b_M_operation 128 = .ok (.iload 5, 2) := by decide +kernel
theorem d_M_operation_130 : decode b_M_operation 130 = .ok (.iaload, 1) := by decide +kernel
theorem d_M_operation_131 : decode b_M_operation 131 = .ok (.invokestatic 72, 3) := by decide +kernel
theorem d_M_operation_134 : decode b_M_operation 134 = .ok (.istore 6, 2) := by decide +kernel
theorem d_M_operation_136 : decode b_M_operation 136 = .ok (.aload_n 0, 1) := by decide +kernel
theorem d_M_operation_137 : decode b_M_operation 137 = .ok (.iload 6, 2) := by decide +kernel
theorem d_M_operation_139 : decode b_M_operation 139 = .ok (.ifCond .ne 7, 3) := by decide +kernel
theorem d_M_operation_142 : decode b_M_operation 142 = .ok (.iconst 1, 1) := by decide +kernel
theorem d_M_operation_143 : decode b_M_operation 143 = .ok (.goto 31, 3) := by decide +kernel
theorem d_M_operation_146 : decode b_M_operation 146 = .ok (.iload_n 2, 1) := by decide +kernel
theorem d_M_operation_147 : decode b_M_operation 147 = .ok (.ifCond .ne 10, 3) := by decide +kernel
theorem d_M_operation_150 : decode b_M_operation 150 = .ok (.aload_n 0, 1) := by decide +kernel
theorem d_M_operation_151 : decode b_M_operation 151 = .ok (.invokevirtual 79, 3) := by decide +kernel
theorem d_M_operation_154 : decode b_M_operation 154 = .ok (.ifCond .eq 15, 3) := by decide +kernel
theorem d_M_operation_157 : decode b_M_operation 157 = .ok (.aload_n 0, 1) := by decide +kernel
theorem d_M_operation_158 : decode b_M_operation 158 = .ok (.getfield 17, 3) := by decide +kernel
theorem d_M_operation_161 : decode b_M_operation 161 = .ok (.iload 5, 2) := by decide +kernel
theorem d_M_operation_163 : decode b_M_operation 163 = .ok (.iaload, 1) := by decide +kernel
theorem d_M_operation_164 : decode b_M_operation 164 = .ok (.bipush 12, 2) := by decide +kernel
theorem d_M_operation_166 : decode b_M_operation 166 = .ok (.if_icmp .ne 7, 3) := by decide +kernel
theorem d_M_operation_169 : decode b_M_operation 169 = .ok (.iconst 2, 1) := by decide +kernel
theorem d_M_operation_170 : decode b_M_operation 170 = .ok (.goto 4, 3) := by decide +kernel
theorem d_M_operation_173 : decode b_M_operation 173 = .ok (.iconst 0, 1) := by decide +kernel
theorem d_M_operation_174 : decode b_M_operation 174 = .ok (.putfield 63, 3) := by decide +kernel
theorem d_M_operation_177 : decode b_M_operation 177 = .ok (.aload_n 0, 1) := by decide +kernel
theorem d_M_operation_178 : decode b_M_operation 178 = .ok (.getfield 63, 3) := by decide +kernel
theorem d_M_operation_181 : decode b_M_operation 181 = .ok (.ifCond .le 5, 3) := by decide +kernel
theorem d_M_operation_184 : decode b_M_operation 184 = .ok (.iconst 0, 1) := by decide +kernel
theorem d_M_operation_185 : decode b_M_operation 185 = .ok (.ireturn, 1) := by decide +kernel
theorem d_M_operation_186 : decode b_M_operation 186 = .ok (.aload_n 0, 1) := by decide +kernel
theorem d_M_operation_187 : decode b_M_operation 187 = .ok (.getfield 20, 3) := by decide +kernel
theorem d_M_operation_190 : decode b_M_operation 190 = .ok (.bipush 12, 2) := by decide +kernel
theorem d_M_operation_192 : decode b_M_operation 192 = .ok (.iload 5, 2) := by decide +kernel
theorem d_M_operation_194 : decode b_M_operation 194 = .ok (.imul, 1) := by decide +kernel
theorem d_M_operation_195 : decode b_M_operation 195 = .ok (.aload_n 0, 1) := by decide +kernel
theorem d_M_operation_196 : decode b_M_operation 196 = .ok (.getfield 17, 3) := by decide +kernel
theorem d_M_operation_199 : decode b_M_operation 199 = .ok (.iload 5, 2) := by decide +kernel
theorem d_M_operation_201 : decode b_M_operation 201 = .ok (.iaload, 1) := by decide +kernel
theorem d_M_operation_202 : decode b_M_operation 202 = .ok (.iadd, 1) := by decide +kernel
theorem d_M_operation_203 : decode b_M_operation 203 = .ok (.iload_n 3, 1) := by decide +kernel
theorem d_M_operation_204 : decode b_M_operation 204 = .ok (.iastore, 1) := by decide +kernel
theorem d_M_operation_205 : decode b_M_operation 205 = .ok (.aload_n 0, 1) := by decide +kernel
theorem d_M_operation_206 : decode b_M_operation 206 = .ok (.getfield 23, 3) := by decide +kernel
theorem d_M_operation_209 : decode b_M_operation 209 = .ok (.bipush 12, 2) := by decide +kernel
theorem d_M_operation_211 : decode b_M_operation 211 = .ok (.iload 5, 2) := by decide +kernel
theorem d_M_operation_213 : decode b_M_operation 213 = .ok (.imul, 1) := by decide +kernel
theorem d_M_operation_214 : decode b_M_operation 214 = .ok (.aload_n 0, 1) := by decide +kernel
theorem d_M_operation_215 : decode b_M_operation 215 = .ok (.getfield 17, 3) := by decide +kernel
theorem d_M_operation_218 : decode b_M_operation 218 = .ok (.iload 5, 2) := by decide +kernel
theorem d_M_operation_220 : decode b_M_operation 220 = .ok (.iaload, 1) := by decide +kernel
theorem d_M_operation_221 : decode b_M_operation 221 = .ok (.iadd, 1) := by decide +kernel
theorem d_M_operation_222 : decode b_M_operation 222 = .ok (.iload 4, 2) := by decide +kernel
theorem d_M_operation_224 : decode b_M_operation 224 = .ok (.iastore, 1) := by decide +kernel
theorem d_M_operation_225 : decode b_M_operation 225 = .ok (.aload_n 0, 1) := by decide +kernel
theorem d_M_operation_226 : decode b_M_operation 226 = .ok (.getfield 17, 3) := by decide +kernel
theorem d_M_operation_229 : decode b_M_operation 229 = .ok (.iload 5, 2) := by decide +kernel
theorem d_M_operation_231 : decode b_M_operation 231 = .ok (.dup2, 1) := by decide +kernel
theorem d_M_operation_232 : decode b_M_operation 232 = .ok (.iaload, 1) := by decide +kernel
theorem d_M_operation_233 : decode b_M_operation 233 = .ok (.iconst 1, 1) := by decide +kernel
theorem d_M_operation_234 : decode b_M_operation 234 = .ok (.iadd, 1) := by decide +kernel
theorem d_M_operation_235 : decode b_M_operation 235 = .ok (.iastore, 1) := by decide +kernel
theorem d_M_operation_236 : decode b_M_operation 236 = .ok (.aload_n 0, 1) := by decide +kernel
theorem d_M_operation_237 : decode b_M_operation 237 = .ok (.getfield 17, 3) := by decide +kernel
theorem d_M_operation_240 : decode b_M_operation 240 = .ok (.iload 5, 2) := by decide +kernel
theorem d_M_operation_242 : decode b_M_operation 242 = .ok (.iaload, 1) := by decide +kernel
theorem d_M_operation_243 : decode b_M_operation 243 = .ok (.ireturn, 1) := by decide +kernel
theorem d_M_name_0 : decode b_M_name 0 = .ok (.iload_n 1, 1) := by decide +kernel
theorem d_M_name_1 : decode b_M_name 1 = .ok (.iconst 0, 1) := by decide +kernel
theorem d_M_name_2 : decode b_M_name 2 = .ok (.aload_n 0, 1) := by decide +kernel
theorem d_M_name_3 : decode b_M_name 3 = .ok (.getfield 76, 3) := by decide +kernel
theorem d_M_name_6 : decode b_M_name 6 = .ok (.iconst 1, 1) := by decide +kernel
theorem d_M_name_7 : decode b_M_name 7 = .ok (.isub, 1) := by decide +kernel
theorem d_M_name_8 : decode b_M_name 8 = .ok (.invokestatic 72, 3) := by decide +kernel
theorem d_M_name_11 : decode b_M_name 11 = .ok (.ifCond .eq 17, 3) := by decide +kernel
theorem d_M_name_14 : decode b_M_name 14 = .ok (.iload_n 2, 1) := by decide +kernel
theorem d_M_name_15 : decode b_M_name 15 = .ok (.iconst 0, 1) := by decide +kernel
theorem d_M_name_16 : decode b_M_name 16 = .ok (.bipush 9, 2) := by decide +kernel
theorem d_M_name_18 : decode b_M_name 18 = .ok (.invokestatic 72, 3) := by decide +kernel
theorem d_M_name_21 : decode b_M_name 21 = .ok (.ifCond .eq 7, 3) := by decide +kernel
theorem d_M_name_24 : decode b_M_name 24 = .ok (.iconst 1, 1) := by decide +kernel
theorem d_M_name_25 : decode b_M_name 25 = .ok (.goto 4, 3) := by decide +kernel
theorem d_M_name_28 : decode b_M_name 28 = .ok (.iconst 0, 1) := by decide +kernel
theorem d_M_name_29 : decode b_M_name 29 = .ok (.istore_n 3, 1) := by decide +kernel
theorem d_M_name_30 : decode b_M_name 30 = .ok (.aload_n 0, 1) := by decide +kernel
theorem d_M_name_31 : decode b_M_name 31 = .ok (.iload_n 3, 1) := by decide +kernel
theorem d_M_name_32 : decode b_M_name 32 = .ok (.ifCond .eq 19, 3) := by decide +kernel
theorem d_M_name_35 : decode b_M_name 35 = .ok (.aload_n 0, 1) := by decide +kernel
theorem d_M_name_36 : decode b_M_name 36 = .ok (.getfield 7, 3) := by decide +kernel
theorem d_M_name_39 : decode b_M_name 39 = .ok (.bipush 48, 2) := by decide +kernel
theorem d_M_name_41 : decode b_M_name 41 = .ok (.iload_n 1, 1) := by decide +kernel
theorem d_M_name_42 : decode b_M_name 42 = .ok (.iadd, 1) := by decide +kernel
theorem d_M_name_43 : decode b_M_name 43 = .ok (.baload, 1) := by decide +kernel
theorem d_M_name_44 : decode b_M_name 44 = .ok (.ifCond .ne 7, 3) := by decide +kernel
theorem d_M_name_47 : decode b_M_name 47 = .ok (.iconst 0, 1) := by decide +kernel
theorem d_M_name_48 : decode b_M_name 48 = .ok (.goto 4, 3) := by decide +kernel
theorem d_M_name_51 : decode b_M_name 51 = .ok (.iconst 1, 1) := by decide +kernel
theorem d_M_name_52 : decode b_M_name 52 = .ok (.putfield 63, 3) := by decide +kernel
theorem d_M_name_55 : decode b_M_name 55 = .ok (.aload_n 0, 1) := by decide +kernel
theorem d_M_name_56 : decode b_M_name 56 = .ok (.getfield 63, 3) := by decide +kernel
theorem d_M_name_59 : decode b_M_name 59 = .ok (.ifCond .le 5, 3) := by decide +kernel
theorem d_M_name_62 : decode b_M_name 62 = .ok (.iconst 0, 1) := by decide +kernel
theorem d_M_name_63 : decode b_M_name 63 = .ok (.ireturn, 1) := by decide +kernel
theorem d_M_name_64 : decode b_M_name 64 = .ok (.aload_n 0, 1) := by decide +kernel
theorem d_M_name_65 : decode b_M_name 65 = .ok (.getfield 7, 3) := by decide +kernel
theorem d_M_name_68 : decode b_M_name 68 = .ok (.bipush 48, 2) := by decide +kernel
theorem d_M_name_70 : decode b_M_name 70 = .ok (.iload_n 1, 1) := by decide +kernel
theorem d_M_name_71 : decode b_M_name 71 = .ok (.iadd, 1) := by decide +kernel
theorem d_M_name_72 : decode b_M_name 72 = .ok (.iconst 1, 1) := by decide +kernel
theorem d_M_name_73 : decode b_M_name 73 = .ok (.bastore, 1) := by decide +kernel
theorem d_M_name_74 : decode b_M_name 74 = .ok (.aload_n 0, 1) := by decide +kernel
theorem d_M_name_75 : decode b_M_name 75 = .ok (.getfield 13, 3) := by decide +kernel
theorem d_M_name_78 : decode b_M_name 78 = .ok (.bipush 48, 2) := by decide +kernel
theorem d_M_name_80 : decode b_M_name 80 = .ok (.iload_n 1, 1) := by decide +kernel
theorem d_M_name_81 : decode b_M_name 81 = .ok (.iadd, 1) := by decide +kernel
theorem d_M_name_82 : decode b_M_name 82 = .ok (.iload_n 2, 1) := by decide +kernel
theorem d_M_name_83 : decode b_M_name 83 = .ok (.iastore, 1) := by decide +kernel
theorem d_M_name_84 : decode b_M_name 84 = .ok (.aload_n 0, 1) := by decide +kernel
theorem d_M_name_85 : decode b_M_name 85 = .ok (.getfield 17, 3) := by decide +kernel
theorem d_M_name_88 : decode b_M_name 88 = .ok (.bipush 48, 2) := by decide +kernel
theorem d_M_name_90 : decode b_M_name 90 = .ok (.iload_n 1, 1) := by decide +kernel
theorem d_M_name_91 : decode b_M_name 91 = .ok (.iadd, 1) := by decide +kernel
theorem d_M_name_92 : decode b_M_name 92 = .ok (.iconst 0, 1) := by decide +kernel
theorem d_M_name_93 : decode b_M_name 93 = .ok (.iastore, 1) := by decide +kernel
theorem d_M_name_94 : decode b_M_name 94 = .ok (.aload_n 0, 1) := by decide +kernel
theorem d_M_name_95 : decode b_M_name 95 = .ok (.dup, 1) := by decide +kernel
theorem d_M_name_96 : decode b_M_name 96 = .ok (.getfield 83, 3) := by decide +kernel
theorem d_M_name_99 : decode b_M_name 99 = .ok (.iconst 1, 1) := by decide +kernel
theorem d_M_name_100 : decode b_M_name 100 = .ok (.iadd, 1) := by decide +kernel
theorem d_M_name_101 : decode b_M_name 101 = .ok (.putfield 83, 3) := by decide +kernel
theorem d_M_name_104 : decode b_M_name 104 = .ok (.aload_n 0, 1) := by decide +kernel
theorem d_M_name_105 : decode b_M_name 105 = .ok (.getfield 83, 3) := by decide +kernel
theorem d_M_name_108 : decode b_M_name 108 = .ok (.ireturn, 1) := by decide +kernel
theorem d_M_apply_0 : decode b_M_apply 0 = .ok (.aload_n 0, 1) := by decide +kernel
theorem d_M_apply_1 : decode b_M_apply 1 = .ok (.getfield 83, 3) := by decide +kernel
theorem d_M_apply_4 : decode b_M_apply 4 = .ok (.istore_n 1, 1) := by decide +kernel
theorem d_M_apply_5 : decode b_M_apply 5 = .ok (.iconst 0, 1) := by decide +kernel
theorem d_M_apply_6 : decode b_M_apply 6 = .ok (.istore_n 2, 1) := by decide +kernel
theorem d_M_apply_7 : decode b_M_apply 7 = .ok (.iconst 0, 1) := by decide +kernel
theorem d_M_apply_8 : decode b_M_apply 8 = .ok (.istore_n 3, 1) := by decide +kernel
theorem d_M_apply_9 : decode b_M_apply 9 = .ok (.iload_n 3, 1) := by decide +kernel
theorem d_M_apply_10 : decode b_M_apply 10 = .ok (.aload_n 0, 1) := by decide +kernel
theorem d_M_apply_11 : decode b_M_apply 11 = .ok (.getfield 76, 3) := by decide +kernel
theorem d_M_apply_14 : decode b_M_apply 14 = .ok (.if_icmp .ge 49, 3) := by decide +kernel
theorem d_M_apply_17 : decode b_M_apply 17 = .ok (.iload_n 2, 1) := by decide +kernel
theorem d_M_apply_18 : decode b_M_apply 18 = .ok (.ifCond .ne 33, 3) := by decide +kernel
theorem d_M_apply_21 : decode b_M_apply 21 = .ok (.aload_n 0, 1) := by decide +kernel
theorem d_M_apply_22 : decode b_M_apply 22 = .ok (.getfield 7, 3) := by decide +kernel
theorem d_M_apply_25 : decode b_M_apply 25 = .ok (.bipush 48, 2) := by decide +kernel
theorem d_M_apply_27 : decode b_M_apply 27 = .ok (.iload_n 3, 1) := by decide +kernel
theorem d_M_apply_28 : decode b_M_apply 28 = .ok (.iadd, 1) := by decide +kernel
theorem d_M_apply_29 : decode b_M_apply 29 = .ok (.baload, 1) := by decide +kernel
theorem d_M_apply_30 : decode b_M_apply 30 = .ok (.ifCond .eq 25, 3) := by decide +kernel
theorem d_M_apply_33 : decode b_M_apply 33 = .ok (.aload_n 0, 1) := by decide +kernel
theorem d_M_apply_34 : decode b_M_apply 34 = .ok (.getfield 13, 3) := by decide +kernel
theorem d_M_apply_37 : decode b_M_apply 37 = .ok (.bipush 48, 2) := by decide +kernel
theorem d_M_apply_39 : decode b_M_apply 39 = .ok (.iload_n 3, 1) := by decide +kernel
theorem d_M_apply_40 : decode b_M_apply 40 = .ok (.iadd, 1) := by decide +kernel
theorem d_M_apply_41 : decode b_M_apply 41 = .ok (.iaload, 1) := by decide +kernel
theorem d_M_apply_42 : decode b_M_apply 42 = .ok (.aload_n 0, 1) := by decide +kernel
theorem d_M_apply_43 : decode b_M_apply 43 = .ok (.getfield 13, 3) := by decide +kernel
theorem d_M_apply_46 : decode b_M_apply 46 = .ok (.iload_n 3, 1) := by decide +kernel
theorem d_M_apply_47 : decode b_M_apply 47 = .ok (.iaload, 1) := by decide +kernel
theorem d_M_apply_48 : decode b_M_apply 48 = .ok (.if_icmp .eq 7, 3) := by decide +kernel
theorem d_M_apply_51 : decode b_M_apply 51 = .ok (.iconst 1, 1) := by decide +kernel
theorem d_M_apply_52 : decode b_M_apply 52 = .ok (.goto 4, 3) := by decide +kernel
theorem d_M_apply_55 : decode b_M_apply 55 = .ok (.iconst 0, 1) := by decide +kernel
theorem d_M_apply_56 : decode b_M_apply 56 = .ok (.istore_n 2, 1) := by decide +kernel
theorem d_M_apply_57 : decode b_M_apply 57 = .ok (.iinc 3 1, 3) := by decide +kernel
theorem d_M_apply_60 : decode b_M_apply 60 = .ok (.goto (-51), 3) := by decide +kernel
theorem d_M_apply_63 : decode b_M_apply 63 = .ok (.aload_n 0, 1) := by decide +kernel
theorem d_M_apply_64 : decode b_M_apply 64 = .ok (.iload_n 1, 1) := by decide +kernel
theorem d_M_apply_65 : decode b_M_apply 65 = .ok (.ifCond .ne 7, 3) := by decide +kernel
theorem d_M_apply_68 : decode b_M_apply 68 = .ok (.iconst 1, 1) := by decide +kernel
theorem d_M_apply_69 : decode b_M_apply 69 = .ok (.goto 31, 3) := by decide +kernel
theorem d_M_apply_72 : decode b_M_apply 72 = .ok (.iload_n 2, 1) := by decide +kernel
theorem d_M_apply_73 : decode b_M_apply 73 = .ok (.ifCond .eq 7, 3) := by decide +kernel
theorem d_M_apply_76 : decode b_M_apply 76 = .ok (.iconst 2, 1) := by decide +kernel
theorem d_M_apply_77 : decode b_M_apply 77 = .ok (.goto 23, 3) := by decide +kernel
theorem d_M_apply_80 : decode b_M_apply 80 = .ok (.aload_n 0, 1) := by decide +kernel
theorem d_M_apply_81 : decode b_M_apply 81 = .ok (.getfield 26, 3) := by decide +kernel
theorem d_M_apply_84 : decode b_M_apply 84 = .ok (.ifCond .ge 11, 3) := by decide +kernel
theorem d_M_apply_87 : decode b_M_apply 87 = .ok (.aload_n 0, 1) := by decide +kernel
theorem d_M_apply_88 : decode b_M_apply 88 = .ok (.getfield 69, 3) := by decide +kernel
theorem d_M_apply_91 : decode b_M_apply 91 = .ok (.iconst 5, 1) := by decide +kernel
theorem d_M_apply_92 : decode b_M_apply 92 = .ok (.if_icmp .ne 7, 3) := by decide +kernel
theorem d_M_apply_95 : decode b_M_apply 95 = .ok (.iconst 3, 1) := by decide +kernel
theorem d_M_apply_96 : decode b_M_apply 96 = .ok (.goto 4, 3) := by decide +kernel
theorem d_M_apply_99 : decode b_M_apply 99 = .ok (.iconst 0, 1) := by decide +kernel
theorem d_M_apply_100 : decode b_M_apply 100 = .ok (.putfield 63, 3) := by decide +kernel
theorem d_M_apply_103 : decode b_M_apply 103 = .ok (.iconst 0, 1) := by decide +kernel
theorem d_M_apply_104 : decode b_M_apply 104 = .ok (.istore_n 3, 1) := by decide +kernel
theorem d_M_apply_105 : decode b_M_apply 105 = .ok (.iload_n 3, 1) := by decide +kernel
theorem d_M_apply_106 : decode b_M_apply 106 = .ok (.bipush 8, 2) := by decide +kernel
theorem d_M_apply_108 : decode b_M_apply 108 = .ok (.if_icmp .ge 42, 3) := by decide +kernel
theorem d_M_apply_111 : decode b_M_apply 111 = .ok (.aload_n 0, 1) := by decide +kernel
theorem d_M_apply_112 : decode b_M_apply 112 = .ok (.getfield 63, 3) := by decide +kernel
theorem d_M_apply_115 : decode b_M_apply 115 = .ok (.ifCond .ne 19, 3) := by decide +kernel
theorem d_M_apply_118 : decode b_M_apply 118 = .ok (.aload_n 0, 1) := by decide +kernel
theorem d_M_apply_119 : decode b_M_apply 119 = .ok (.iload_n 3, 1) := by decide +kernel
theorem d_M_apply_120 : decode b_M_apply 120 = .ok (.bipush 8, 2) := by decide +kernel
theorem d_M_apply_122 : decode b_M_apply 122 = .ok (.aload_n 0, 1) := by decide +kernel
theorem d_M_apply_123 : decode b_M_apply 123 = .ok (.getfield 69, 3) := by decide +kernel
theorem d_M_apply_126 : decode b_M_apply 126 = .ok (.iconst 1, 1) := by decide +kernel
theorem d_M_apply_127 : decode b_M_apply 127 = .ok (.iadd, 1) := by decide +kernel
theorem d_M_apply_128 : decode b_M_apply 128 = .ok (.imul, 1) := by decide +kernel
theorem d_M_apply_129 : decode b_M_apply 129 = .ok (.iload_n 3, 1) := by decide +kernel
theorem d_M_apply_130 : decode b_M_apply 130 = .ok (.iadd, 1) := by decide +kernel
theorem d_M_apply_131 : decode b_M_apply 131 = .ok (.invokevirtual 86, 3) := by decide +kernel
theorem d_M_apply_134 : decode b_M_apply 134 = .ok (.aload_n 0, 1) := by decide +kernel
theorem d_M_apply_135 : decode b_M_apply 135 = .ok (.getfield 7, 3) := by decide +kernel
theorem d_M_apply_138 : decode b_M_apply 138 = .ok (.bipush 48, 2) := by decide +kernel
theorem d_M_apply_140 : decode b_M_apply 140 = .ok (.iload_n 3, 1) := by decide +kernel
theorem d_M_apply_141 : decode b_M_apply 141 = .ok (.iadd, 1) := by decide +kernel
theorem d_M_apply_142 : decode b_M_apply 142 = .ok (.iconst 0, 1) := by decide +kernel
theorem d_M_apply_143 : decode b_M_apply 143 = .ok (.bastore, 1) := by decide +kernel
theorem d_M_apply_144 : decode b_M_apply 144 = .ok (.iinc 3 1, 3) := by decide +kernel
theorem d_M_apply_147 : decode b_M_apply 147 = .ok (.goto (-42), 3) := by decide +kernel
theorem d_M_apply_150 : decode b_M_apply 150 = .ok (.aload_n 0, 1) := by decide +kernel
theorem d_M_apply_151 : decode b_M_apply 151 = .ok (.iconst 0, 1) := by decide +kernel
theorem d_M_apply_152 : decode b_M_apply 152 = .ok (.putfield 83, 3) := by decide +kernel
theorem d_M_apply_155 : decode b_M_apply 155 = .ok (.aload_n 0, 1) := by decide +kernel
theorem d_M_apply_156 : decode b_M_apply 156 = .ok (.getfield 63, 3) := by decide +kernel
theorem d_M_apply_159 : decode b_M_apply 159 = .ok (.ifCond .le 5, 3) := by decide +kernel
theorem d_M_apply_162 : decode b_M_apply 162 = .ok (.iconst 0, 1) := by decide +kernel
theorem d_M_apply_163 : decode b_M_apply 163 = .ok (.ireturn, 1) := by decide +kernel
theorem d_M_apply_164 : decode b_M_apply 164 = .ok (.aload_n 0, 1) := by decide +kernel
theorem d_M_apply_165 : decode b_M_apply 165 = .ok (.dup, 1) := by decide +kernel
theorem d_M_apply_166 : decode b_M_apply 166 = .ok (.getfield 69, 3) := by decide +kernel
theorem d_M_apply_169 : decode b_M_apply 169 = .ok (.iconst 1, 1) := by decide +kernel
theorem d_M_apply_170 : decode b_M_apply 170 = .ok (.iadd, 1) := by decide +kernel
theorem d_M_apply_171 : decode b_M_apply 171 = .ok (.putfield 69, 3) := by decide +kernel
theorem d_M_apply_174 : decode b_M_apply 174 = .ok (.aload_n 0, 1) := by decide +kernel
theorem d_M_apply_175 : decode b_M_apply 175 = .ok (.aload_n 0, 1) := by decide +kernel
theorem d_M_apply_176 : decode b_M_apply 176 = .ok (.getfield 69, 3) := by decide +kernel
theorem d_M_apply_179 : decode b_M_apply 179 = .ok (.putfield 26, 3) := by decide +kernel
theorem d_M_apply_182 : decode b_M_apply 182 = .ok (.aload_n 0, 1) := by decide +kernel
theorem d_M_apply_183 : decode b_M_apply 183 = .ok (.getfield 69, 3) := by decide +kernel
theorem d_M_apply_186 : decode b_M_apply 186 = .ok (.istore_n 3, 1) := by decide +kernel
theorem d_M_apply_187 : decode b_M_apply 187 = .ok (.aload_n 0, 1) := by decide +kernel
theorem d_M_apply_188 : decode b_M_apply 188 = .ok (.invokevirtual 90, 3) := by decide +kernel
theorem d_M_apply_191 : decode b_M_apply 191 = .ok (.iload_n 3, 1) := by decide +kernel
theorem d_M_apply_192 : decode b_M_apply 192 = .ok (.ireturn, 1) := by decide +kernel
theorem d_M_takeBody_0 : decode b_M_takeBody 0 = .ok (.aload_n 0, 1) := by decide +kernel
theorem d_M_takeBody_1 : decode b_M_takeBody 1 = .ok (.getfield 7, 3) := by decide +kernel
theorem d_M_takeBody_4 : decode b_M_takeBody 4 = .ok (.iload_n 2, 1) := by decide +kernel
theorem d_M_takeBody_5 : decode b_M_takeBody 5 = .ok (.aload_n 0, 1) := by decide +kernel
theorem d_M_takeBody_6 : decode b_M_takeBody 6 = .ok (.getfield 7, 3) := by decide +kernel
theorem d_M_takeBody_9 : decode b_M_takeBody 9 = .ok (.bipush 48, 2) := by decide +kernel
theorem d_M_takeBody_11 : decode b_M_takeBody 11 = .ok (.iload_n 1, 1) := by decide +kernel
theorem d_M_takeBody_12 : decode b_M_takeBody 12 = .ok (.iadd, 1) := by decide +kernel
theorem d_M_takeBody_13 : decode b_M_takeBody 13 = .ok (.baload, 1) := by decide +kernel
theorem d_M_takeBody_14 : decode b_M_takeBody 14 = .ok (.bastore, 1) := by decide +kernel
theorem d_M_takeBody_15 : decode b_M_takeBody 15 = .ok (.aload_n 0, 1) := by decide +kernel
theorem d_M_takeBody_16 : decode b_M_takeBody 16 = .ok (.getfield 17, 3) := by decide +kernel
theorem d_M_takeBody_19 : decode b_M_takeBody 19 = .ok (.iload_n 2, 1) := by decide +kernel
theorem d_M_takeBody_20 : decode b_M_takeBody 20 = .ok (.aload_n 0, 1) := by decide +kernel
theorem d_M_takeBody_21 : decode b_M_takeBody 21 = .ok (.getfield 17, 3) := by decide +kernel
theorem d_M_takeBody_24 : decode b_M_takeBody 24 = .ok (.bipush 48, 2) := by decide +kernel
theorem d_M_takeBody_26 : decode b_M_takeBody 26 = .ok (.iload_n 1, 1) := by decide +kernel
theorem d_M_takeBody_27 : decode b_M_takeBody 27 = .ok (.iadd, 1) := by decide +kernel
theorem d_M_takeBody_28 : decode b_M_takeBody 28 = .ok (.iaload, 1) := by decide +kernel
theorem d_M_takeBody_29 : decode b_M_takeBody 29 = .ok (.iastore, 1) := by decide +kernel
theorem d_M_takeBody_30 : decode b_M_takeBody 30 = .ok (.iconst 0, 1) := by decide +kernel
theorem d_M_takeBody_31 : decode b_M_takeBody 31 = .ok (.istore_n 3, 1) := by decide +kernel
theorem d_M_takeBody_32 : decode b_M_takeBody 32 = .ok (.iload_n 3, 1) := by decide +kernel
theorem d_M_takeBody_33 : decode b_M_takeBody 33 = .ok (.bipush 12, 2) := by decide +kernel
theorem d_M_takeBody_35 : decode b_M_takeBody 35 = .ok (.if_icmp .ge 59, 3) := by decide +kernel
theorem d_M_takeBody_38 : decode b_M_takeBody 38 = .ok (.aload_n 0, 1) := by decide +kernel
theorem d_M_takeBody_39 : decode b_M_takeBody 39 = .ok (.getfield 20, 3) := by decide +kernel
theorem d_M_takeBody_42 : decode b_M_takeBody 42 = .ok (.bipush 12, 2) := by decide +kernel
theorem d_M_takeBody_44 : decode b_M_takeBody 44 = .ok (.iload_n 2, 1) := by decide +kernel
theorem d_M_takeBody_45 : decode b_M_takeBody 45 = .ok (.imul, 1) := by decide +kernel
theorem d_M_takeBody_46 : decode b_M_takeBody 46 = .ok (.iload_n 3, 1) := by decide +kernel
theorem d_M_takeBody_47 : decode b_M_takeBody 47 = .ok (.iadd, 1) := by decide +kernel
theorem d_M_takeBody_48 : decode b_M_takeBody 48 = .ok (.aload_n 0, 1) := by decide +kernel
theorem d_M_takeBody_49 : decode b_M_takeBody 49 = .ok (.getfield 20, 3) := by decide +kernel
theorem d_M_takeBody_52 : decode b_M_takeBody 52 = .ok (.bipush 12, 2) := by decide +kernel
theorem d_M_takeBody_54 : decode b_M_takeBody 54 = .ok (.bipush 48, 2) := by decide +kernel
theorem d_M_takeBody_56 : decode b_M_takeBody 56 = .ok (.iload_n 1, 1) := by decide +kernel
theorem d_M_takeBody_57 : decode b_M_takeBody 57 = .ok (.iadd, 1) := by decide +kernel
theorem d_M_takeBody_58 : decode b_M_takeBody 58 = .ok (.imul, 1) := by decide +kernel
theorem d_M_takeBody_59 : decode b_M_takeBody 59 = .ok (.iload_n 3, 1) := by decide +kernel
theorem d_M_takeBody_60 : decode b_M_takeBody 60 = .ok (.iadd, 1) := by decide +kernel
theorem d_M_takeBody_61 : decode b_M_takeBody 61 = .ok (.iaload, 1) := by decide +kernel
theorem d_M_takeBody_62 : decode b_M_takeBody 62 = .ok (.iastore, 1) := by decide +kernel
theorem d_M_takeBody_63 : decode b_M_takeBody 63 = .ok (.aload_n 0, 1) := by decide +kernel
theorem d_M_takeBody_64 : decode b_M_takeBody 64 = .ok (.getfield 23, 3) := by decide +kernel
theorem d_M_takeBody_67 : decode b_M_takeBody 67 = .ok (.bipush 12, 2) := by decide +kernel
theorem d_M_takeBody_69 : decode b_M_takeBody 69 = .ok (.iload_n 2, 1) := by decide +kernel
theorem d_M_takeBody_70 : decode b_M_takeBody 70 = .ok (.imul, 1) := by decide +kernel
theorem d_M_takeBody_71 : decode b_M_takeBody 71 = .ok (.iload_n 3, 1) := by decide +kernel
theorem d_M_takeBody_72 : decode b_M_takeBody 72 = .ok (.iadd, 1) := by decide +kernel
theorem d_M_takeBody_73 : decode b_M_takeBody 73 = .ok (.aload_n 0, 1) := by decide +kernel
theorem d_M_takeBody_74 : decode b_M_takeBody 74 = .ok (.getfield 23, 3) := by decide +kernel
theorem d_M_takeBody_77 : decode b_M_takeBody 77 = .ok (.bipush 12, 2) := by decide +kernel
theorem d_M_takeBody_79 : decode b_M_takeBody 79 = .ok (.bipush 48, 2) := by decide +kernel
theorem d_M_takeBody_81 : decode b_M_takeBody 81 = .ok (.iload_n 1, 1) := by decide +kernel
theorem d_M_takeBody_82 : decode b_M_takeBody 82 = .ok (.iadd, 1) := by decide +kernel
theorem d_M_takeBody_83 : decode b_M_takeBody 83 = .ok (.imul, 1) := by decide +kernel
theorem d_M_takeBody_84 : decode b_M_takeBody 84 = .ok (.iload_n 3, 1) := by decide +kernel
theorem d_M_takeBody_85 : decode b_M_takeBody 85 = .ok (.iadd, 1) := by decide +kernel
theorem d_M_takeBody_86 : decode b_M_takeBody 86 = .ok (.iaload, 1) := by decide +kernel
theorem d_M_takeBody_87 : decode b_M_takeBody 87 = .ok (.iastore, 1) := by decide +kernel
theorem d_M_takeBody_88 : decode b_M_takeBody 88 = .ok (.iinc 3 1, 3) := by decide +kernel
theorem d_M_takeBody_91 : decode b_M_takeBody 91 = .ok (.goto (-59), 3) := by decide +kernel
theorem d_M_takeBody_94 : decode b_M_takeBody 94 = .ok (.return_, 1) := by decide +kernel
theorem d_M_settle_0 : decode b_M_settle 0 = .ok (.iconst 1, 1) := by decide +kernel
theorem d_M_settle_1 : decode b_M_settle 1 = .ok (.istore_n 1, 1) := by decide +kernel
theorem d_M_settle_2 : decode b_M_settle 2 = .ok (.iconst 0, 1) := by decide +kernel
theorem d_M_settle_3 : decode b_M_settle 3 = .ok (.istore_n 2, 1) := by decide +kernel
theorem d_M_settle_4 : decode b_M_settle 4 = .ok (.iload_n 2, 1) := by decide +kernel
theorem d_M_settle_5 : decode b_M_settle 5 = .ok (.aload_n 0, 1) := by decide +kernel
theorem d_M_settle_6 : decode b_M_settle 6 = .ok (.getfield 66, 3) := by decide +kernel
theorem d_M_settle_9 : decode b_M_settle 9 = .ok (.if_icmp .ge 32, 3) := by decide +kernel
theorem d_M_settle_12 : decode b_M_settle 12 = .ok (.iload_n 1, 1) := by decide +kernel
theorem d_M_settle_13 : decode b_M_settle 13 = .ok (.ifCond .eq 20, 3) := by decide +kernel
theorem d_M_settle_16 : decode b_M_settle 16 = .ok (.aload_n 0, 1) := by decide +kernel
theorem d_M_settle_17 : decode b_M_settle 17 = .ok (.getfield 33, 3) := by decide +kernel
theorem d_M_settle_20 : decode b_M_settle 20 = .ok (.iload_n 2, 1) := by decide +kernel
theorem d_M_settle_21 : decode b_M_settle 21 = .ok (.iaload, 1) := by decide +kernel
theorem d_M_settle_22 : decode b_M_settle 22 = .ok (.aload_n 0, 1) := by decide +kernel
theorem d_M_settle_23 : decode b_M_settle 23 = .ok (.getfield 26, 3) := by decide +kernel
theorem d_M_settle_26 : decode b_M_settle 26 = .ok (.if_icmp .ne 7, 3) := by decide +kernel
theorem d_M_settle_29 : decode b_M_settle 29 = .ok (.iconst 1, 1) := by decide +kernel
theorem d_M_settle_30 : decode b_M_settle 30 = .ok (.goto 4, 3) := by decide +kernel
theorem d_M_settle_33 : decode b_M_settle 33 = .ok (.iconst 0, 1) := by decide +kernel
theorem d_M_settle_34 : decode b_M_settle 34 = .ok (.istore_n 1, 1) := by decide +kernel
theorem d_M_settle_35 : decode b_M_settle 35 = .ok (.iinc 2 1, 3) := by decide +kernel
theorem d_M_settle_38 : decode b_M_settle 38 = .ok (.goto (-34), 3) := by decide +kernel
theorem d_M_settle_41 : decode b_M_settle 41 = .ok (.iload_n 1, 1) := by decide +kernel
theorem d_M_settle_42 : decode b_M_settle 42 = .ok (.ifCond .ne 4, 3) := by decide +kernel
theorem d_M_settle_45 : decode b_M_settle 45 = .ok (.return_, 1) := by decide +kernel
theorem d_M_settle_46 : decode b_M_settle 46 = .ok (.aload_n 0, 1) := by decide +kernel
theorem d_M_settle_47 : decode b_M_settle 47 = .ok (.aload_n 0, 1) := by decide +kernel
theorem d_M_settle_48 : decode b_M_settle 48 = .ok (.getfield 26, 3) := by decide +kernel
theorem d_M_settle_51 : decode b_M_settle 51 = .ok (.putfield 69, 3) := by decide +kernel
theorem d_M_settle_54 : decode b_M_settle 54 = .ok (.aload_n 0, 1) := by decide +kernel
theorem d_M_settle_55 : decode b_M_settle 55 = .ok (.iconst (-1), 1) := by decide +kernel
theorem d_M_settle_56 : decode b_M_settle 56 = .ok (.putfield 26, 3) := by decide +kernel
theorem d_M_settle_59 : decode b_M_settle 59 = .ok (.return_, 1) := by decide +kernel
theorem d_M_turn_0 : decode b_M_turn 0 = .ok (.aload_n 0, 1) := by decide +kernel
theorem d_M_turn_1 : decode b_M_turn 1 = .ok (.aload_n 0, 1) := by decide +kernel
theorem d_M_turn_2 : decode b_M_turn 2 = .ok (.getfield 26, 3) := by decide +kernel
theorem d_M_turn_5 : decode b_M_turn 5 = .ok (.ifCond .ge 10, 3) := by decide +kernel
theorem d_M_turn_8 : decode b_M_turn 8 = .ok (.aload_n 0, 1) := by decide +kernel
theorem d_M_turn_9 : decode b_M_turn 9 = .ok (.getfield 69, 3) := by decide +kernel
theorem d_M_turn_12 : decode b_M_turn 12 = .ok (.ifCond .le 7, 3) := by decide +kernel
theorem d_M_turn_15 : decode b_M_turn 15 = .ok (.iconst 0, 1) := by decide +kernel
theorem d_M_turn_16 : decode b_M_turn 16 = .ok (.goto 4, 3) := by decide +kernel
theorem d_M_turn_19 : decode b_M_turn 19 = .ok (.iconst 1, 1) := by decide +kernel
theorem d_M_turn_20 : decode b_M_turn 20 = .ok (.putfield 63, 3) := by decide +kernel
theorem d_M_turn_23 : decode b_M_turn 23 = .ok (.aload_n 0, 1) := by decide +kernel
theorem d_M_turn_24 : decode b_M_turn 24 = .ok (.getfield 63, 3) := by decide +kernel
theorem d_M_turn_27 : decode b_M_turn 27 = .ok (.ifCond .le 5, 3) := by decide +kernel
theorem d_M_turn_30 : decode b_M_turn 30 = .ok (.iconst 0, 1) := by decide +kernel
theorem d_M_turn_31 : decode b_M_turn 31 = .ok (.ireturn, 1) := by decide +kernel
theorem d_M_turn_32 : decode b_M_turn 32 = .ok (.aload_n 0, 1) := by decide +kernel
theorem d_M_turn_33 : decode b_M_turn 33 = .ok (.aload_n 0, 1) := by decide +kernel
theorem d_M_turn_34 : decode b_M_turn 34 = .ok (.getfield 26, 3) := by decide +kernel
theorem d_M_turn_37 : decode b_M_turn 37 = .ok (.aload_n 0, 1) := by decide +kernel
theorem d_M_turn_38 : decode b_M_turn 38 = .ok (.getfield 69, 3) := by decide +kernel
theorem d_M_turn_41 : decode b_M_turn 41 = .ok (.iconst 1, 1) := by decide +kernel
theorem d_M_turn_42 : decode b_M_turn 42 = .ok (.isub, 1) := by decide +kernel
theorem d_M_turn_43 : decode b_M_turn 43 = .ok (.if_icmp .ne 10, 3) := by decide +kernel
theorem d_M_turn_46 : decode b_M_turn 46 = .ok (.aload_n 0, 1) := by decide +kernel
theorem d_M_turn_47 : decode b_M_turn 47 = .ok (.getfield 69, 3) := by decide +kernel
theorem d_M_turn_50 : decode b_M_turn 50 = .ok (.goto 9, 3) := by decide +kernel
theorem d_M_turn_53 : decode b_M_turn 53 = .ok (.aload_n 0, 1) := by decide +kernel
theorem d_M_turn_54 : decode b_M_turn 54 = .ok (.getfield 69, 3) := by decide +kernel
theorem d_M_turn_57 : decode b_M_turn 57 = .ok (.iconst 1, 1) := by decide +kernel
theorem d_M_turn_58 : decode b_M_turn 58 = .ok (.isub, 1) := by decide +kernel
theorem d_M_turn_59 : decode b_M_turn 59 = .ok (.putfield 26, 3) := by decide +kernel
theorem d_M_turn_62 : decode b_M_turn 62 = .ok (.aload_n 0, 1) := by decide +kernel
theorem d_M_turn_63 : decode b_M_turn 63 = .ok (.getfield 26, 3) := by decide +kernel
theorem d_M_turn_66 : decode b_M_turn 66 = .ok (.istore_n 1, 1) := by decide +kernel
theorem d_M_turn_67 : decode b_M_turn 67 = .ok (.aload_n 0, 1) := by decide +kernel
theorem d_M_turn_68 : decode b_M_turn 68 = .ok (.invokevirtual 90, 3) := by decide +kernel
theorem d_M_turn_71 : decode b_M_turn 71 = .ok (.iload_n 1, 1) := by decide +kernel
theorem d_M_turn_72 : decode b_M_turn 72 = .ok (.ireturn, 1) := by decide +kernel
theorem d_M_task_0 : decode b_M_task 0 = .ok (.aload_n 0, 1) := by decide +kernel
theorem d_M_task_1 : decode b_M_task 1 = .ok (.iload_n 1, 1) := by decide +kernel
theorem d_M_task_2 : decode b_M_task 2 = .ok (.iconst 0, 1) := by decide +kernel
theorem d_M_task_3 : decode b_M_task 3 = .ok (.aload_n 0, 1) := by decide +kernel
theorem d_M_task_4 : decode b_M_task 4 = .ok (.getfield 76, 3) := by decide +kernel
theorem d_M_task_7 : decode b_M_task 7 = .ok (.iconst 1, 1) := by decide +kernel
theorem d_M_task_8 : decode b_M_task 8 = .ok (.isub, 1) := by decide +kernel
theorem d_M_task_9 : decode b_M_task 9 = .ok (.invokestatic 72, 3) := by decide +kernel
theorem d_M_task_12 : decode b_M_task 12 = .ok (.ifCond .ne 7, 3) := by decide +kernel
theorem d_M_task_15 : decode b_M_task 15 = .ok (.iconst 1, 1) := by decide +kernel
theorem d_M_task_16 : decode b_M_task 16 = .ok (.goto 16, 3) := by decide +kernel
theorem d_M_task_19 : decode b_M_task 19 = .ok (.aload_n 0, 1) := by decide +kernel
theorem d_M_task_20 : decode b_M_task 20 = .ok (.getfield 66, 3) := by decide +kernel
theorem d_M_task_23 : decode b_M_task 23 = .ok (.iconst 4, 1) := by decide +kernel
theorem d_M_task_24 : decode b_M_task 24 = .ok (.if_icmp .ne 7, 3) := by decide +kernel
theorem d_M_task_27 : decode b_M_task 27 = .ok (.iconst 2, 1) := by decide +kernel
theorem d_M_task_28 : decode b_M_task 28 = .ok (.goto 4, 3) := by decide +kernel
theorem d_M_task_31 : decode b_M_task 31 = .ok (.iconst 0, 1) := by decide +kernel
theorem d_M_task_32 : decode b_M_task 32 = .ok (.putfield 63, 3) := by decide +kernel
theorem d_M_task_35 : decode b_M_task 35 = .ok (.aload_n 0, 1) := by decide +kernel
theorem d_M_task_36 : decode b_M_task 36 = .ok (.getfield 63, 3) := by decide +kernel
theorem d_M_task_39 : decode b_M_task 39 = .ok (.ifCond .le 5, 3) := by decide +kernel
theorem d_M_task_42 : decode b_M_task 42 = .ok (.iconst 0, 1) := by decide +kernel
theorem d_M_task_43 : decode b_M_task 43 = .ok (.ireturn, 1) := by decide +kernel
theorem d_M_task_44 : decode b_M_task 44 = .ok (.aload_n 0, 1) := by decide +kernel
theorem d_M_task_45 : decode b_M_task 45 = .ok (.getfield 30, 3) := by decide +kernel
theorem d_M_task_48 : decode b_M_task 48 = .ok (.aload_n 0, 1) := by decide +kernel
theorem d_M_task_49 : decode b_M_task 49 = .ok (.getfield 66, 3) := by decide +kernel
theorem d_M_task_52 : decode b_M_task 52 = .ok (.iload_n 1, 1) := by decide +kernel
theorem d_M_task_53 : decode b_M_task 53 = .ok (.iastore, 1) := by decide +kernel
theorem d_M_task_54 : decode b_M_task 54 = .ok (.aload_n 0, 1) := by decide +kernel
theorem d_M_task_55 : decode b_M_task 55 = .ok (.getfield 33, 3) := by decide +kernel
theorem d_M_task_58 : decode b_M_task 58 = .ok (.aload_n 0, 1) := by decide +kernel
theorem d_M_task_59 : decode b_M_task 59 = .ok (.getfield 66, 3) := by decide +kernel
theorem d_M_task_62 : decode b_M_task 62 = .ok (.aload_n 0, 1) := by decide +kernel
theorem d_M_task_63 : decode b_M_task 63 = .ok (.getfield 26, 3) := by decide +kernel
theorem d_M_task_66 : decode b_M_task 66 = .ok (.ifCond .ge 10, 3) := by decide +kernel
theorem d_M_task_69 : decode b_M_task 69 = .ok (.aload_n 0, 1) := by decide +kernel
theorem d_M_task_70 : decode b_M_task 70 = .ok (.getfield 69, 3) := by decide +kernel
theorem d_M_task_73 : decode b_M_task 73 = .ok (.goto 7, 3) := by decide +kernel
theorem d_M_task_76 : decode b_M_task 76 = .ok (.aload_n 0, 1) := by decide +kernel
theorem d_M_task_77 : decode b_M_task 77 = .ok (.getfield 26, 3) := by decide +kernel
theorem d_M_task_80 : decode b_M_task 80 = .ok (.iastore, 1) := by decide +kernel
theorem d_M_task_81 : decode b_M_task 81 = .ok (.aload_n 0, 1) := by decide +kernel
theorem d_M_task_82 : decode b_M_task 82 = .ok (.dup, 1) := by decide +kernel
theorem d_M_task_83 : decode b_M_task 83 = .ok (.getfield 66, 3) := by decide +kernel
theorem d_M_task_86 : decode b_M_task 86 = .ok (.iconst 1, 1) := by decide +kernel
theorem d_M_task_87 : decode b_M_task 87 = .ok (.iadd, 1) := by decide +kernel
theorem d_M_task_88 : decode b_M_task 88 = .ok (.putfield 66, 3) := by decide +kernel
theorem d_M_task_91 : decode b_M_task 91 = .ok (.aload_n 0, 1) := by decide +kernel
theorem d_M_task_92 : decode b_M_task 92 = .ok (.aload_n 0, 1) := by decide +kernel
theorem d_M_task_93 : decode b_M_task 93 = .ok (.getfield 66, 3) := by decide +kernel
theorem d_M_task_96 : decode b_M_task 96 = .ok (.iconst 1, 1) := by decide +kernel
theorem d_M_task_97 : decode b_M_task 97 = .ok (.isub, 1) := by decide +kernel
theorem d_M_task_98 : decode b_M_task 98 = .ok (.iload_n 1, 1) := by decide +kernel
theorem d_M_task_99 : decode b_M_task 99 = .ok (.invokevirtual 97, 3) := by decide +kernel
theorem d_M_task_102 : decode b_M_task 102 = .ok (.aload_n 0, 1) := by decide +kernel
theorem d_M_task_103 : decode b_M_task 103 = .ok (.getfield 66, 3) := by decide +kernel
theorem d_M_task_106 : decode b_M_task 106 = .ok (.iconst 1, 1) := by decide +kernel
theorem d_M_task_107 : decode b_M_task 107 = .ok (.isub, 1) := by decide +kernel
theorem d_M_task_108 : decode b_M_task 108 = .ok (.ireturn, 1) := by decide +kernel
theorem d_M_enter_0 : decode b_M_enter 0 = .ok (.aload_n 0, 1) := by decide +kernel
theorem d_M_enter_1 : decode b_M_enter 1 = .ok (.getfield 48, 3) := by decide +kernel
theorem d_M_enter_4 : decode b_M_enter 4 = .ok (.iload_n 1, 1) := by decide +kernel
theorem d_M_enter_5 : decode b_M_enter 5 = .ok (.iaload, 1) := by decide +kernel
theorem d_M_enter_6 : decode b_M_enter 6 = .ok (.bipush 6, 2) := by decide +kernel
theorem d_M_enter_8 : decode b_M_enter 8 = .ok (.if_icmp .ne 4, 3) := by decide +kernel
theorem d_M_enter_11 : decode b_M_enter 11 = .ok (.return_, 1) := by decide +kernel
theorem d_M_enter_12 : decode b_M_enter 12 = .ok (.bipush 6, 2) := by decide +kernel
theorem d_M_enter_14 : decode b_M_enter 14 = .ok (.iload_n 1, 1) := by decide +kernel
theorem d_M_enter_15 : decode b_M_enter 15 = .ok (.imul, 1) := by decide +kernel
theorem d_M_enter_16 : decode b_M_enter 16 = .ok (.aload_n 0, 1) := by decide +kernel
theorem d_M_enter_17 : decode b_M_enter 17 = .ok (.getfield 48, 3) := by decide +kernel
theorem d_M_enter_20 : decode b_M_enter 20 = .ok (.iload_n 1, 1) := by decide +kernel
theorem d_M_enter_21 : decode b_M_enter 21 = .ok (.iaload, 1) := by decide +kernel
theorem d_M_enter_22 : decode b_M_enter 22 = .ok (.iadd, 1) := by decide +kernel
theorem d_M_enter_23 : decode b_M_enter 23 = .ok (.istore_n 3, 1) := by decide +kernel
theorem d_M_enter_24 : decode b_M_enter 24 = .ok (.aload_n 0, 1) := by decide +kernel
theorem d_M_enter_25 : decode b_M_enter 25 = .ok (.getfield 51, 3) := by decide +kernel
theorem d_M_enter_28 : decode b_M_enter 28 = .ok (.iload_n 3, 1) := by decide +kernel
theorem d_M_enter_29 : decode b_M_enter 29 = .ok (.aload_n 0, 1) := by decide +kernel
theorem d_M_enter_30 : decode b_M_enter 30 = .ok (.iload_n 2, 1) := by decide +kernel
theorem d_M_enter_31 : decode b_M_enter 31 = .ok (.aload_n 0, 1) := by decide +kernel
theorem d_M_enter_32 : decode b_M_enter 32 = .ok (.getfield 33, 3) := by decide +kernel
theorem d_M_enter_35 : decode b_M_enter 35 = .ok (.iload_n 1, 1) := by decide +kernel
theorem d_M_enter_36 : decode b_M_enter 36 = .ok (.iaload, 1) := by decide +kernel
theorem d_M_enter_37 : decode b_M_enter 37 = .ok (.invokevirtual 93, 3) := by decide +kernel
theorem d_M_enter_40 : decode b_M_enter 40 = .ok (.iastore, 1) := by decide +kernel
theorem d_M_enter_41 : decode b_M_enter 41 = .ok (.aload_n 0, 1) := by decide +kernel
theorem d_M_enter_42 : decode b_M_enter 42 = .ok (.getfield 54, 3) := by decide +kernel
theorem d_M_enter_45 : decode b_M_enter 45 = .ok (.iload_n 3, 1) := by decide +kernel
theorem d_M_enter_46 : decode b_M_enter 46 = .ok (.aload_n 0, 1) := by decide +kernel
theorem d_M_enter_47 : decode b_M_enter 47 = .ok (.getfield 33, 3) := by decide +kernel
theorem d_M_enter_50 : decode b_M_enter 50 = .ok (.iload_n 1, 1) := by decide +kernel
theorem d_M_enter_51 : decode b_M_enter 51 = .ok (.iaload, 1) := by decide +kernel
theorem d_M_enter_52 : decode b_M_enter 52 = .ok (.iastore, 1) := by decide +kernel
theorem d_M_enter_53 : decode b_M_enter 53 = .ok (.aload_n 0, 1) := by decide +kernel
theorem d_M_enter_54 : decode b_M_enter 54 = .ok (.getfield 57, 3) := by decide +kernel
theorem d_M_enter_57 : decode b_M_enter 57 = .ok (.iload_n 3, 1) := by decide +kernel
theorem d_M_enter_58 : decode b_M_enter 58 = .ok (.iconst 0, 1) := by decide +kernel
theorem d_M_enter_59 : decode b_M_enter 59 = .ok (.iastore, 1) := by decide +kernel
theorem d_M_enter_60 : decode b_M_enter 60 = .ok (.aload_n 0, 1) := by decide +kernel
theorem d_M_enter_61 : decode b_M_enter 61 = .ok (.getfield 60, 3) := by decide +kernel
theorem d_M_enter_64 : decode b_M_enter 64 = .ok (.iload_n 3, 1) := by decide +kernel
theorem d_M_enter_65 : decode b_M_enter 65 = .ok (.iconst 0, 1) := by decide +kernel
theorem d_M_enter_66 : decode b_M_enter 66 = .ok (.iastore, 1) := by decide +kernel
theorem d_M_enter_67 : decode b_M_enter 67 = .ok (.aload_n 0, 1) := by decide +kernel
theorem d_M_enter_68 : decode b_M_enter 68 = .ok (.getfield 48, 3) := by decide +kernel
theorem d_M_enter_71 : decode b_M_enter 71 = .ok (.iload_n 1, 1) := by decide +kernel
theorem d_M_enter_72 : decode b_M_enter 72 = .ok (.dup2, 1) := by decide +kernel
theorem d_M_enter_73 : decode b_M_enter 73 = .ok (.iaload, 1) := by decide +kernel
theorem d_M_enter_74 : decode b_M_enter 74 = .ok (.iconst 1, 1) := by decide +kernel
theorem d_M_enter_75 : decode b_M_enter 75 = .ok (.iadd, 1) := by decide +kernel
theorem d_M_enter_76 : decode b_M_enter 76 = .ok (.iastore, 1) := by decide +kernel
theorem d_M_enter_77 : decode b_M_enter 77 = .ok (.return_, 1) := by decide +kernel
theorem d_M_bodyRow_0 : decode b_M_bodyRow 0 = .ok (.iload_n 1, 1) := by decide +kernel
theorem d_M_bodyRow_1 : decode b_M_bodyRow 1 = .ok (.istore_n 3, 1) := by decide +kernel
theorem d_M_bodyRow_2 : decode b_M_bodyRow 2 = .ok (.iconst 1, 1) := by decide +kernel
theorem d_M_bodyRow_3 : decode b_M_bodyRow 3 = .ok (.istore 4, 2) := by decide +kernel
theorem d_M_bodyRow_5 : decode b_M_bodyRow 5 = .ok (.iload 4, 2) := by decide +kernel
theorem d_M_bodyRow_7 : decode b_M_bodyRow 7 = .ok (.iload_n 2, 1) := by decide +kernel
theorem d_M_bodyRow_8 : decode b_M_bodyRow 8 = .ok (.if_icmp .gt 36, 3) := by decide +kernel
theorem d_M_bodyRow_11 : decode b_M_bodyRow 11 = .ok (.aload_n 0, 1) := by decide +kernel
theorem d_M_bodyRow_12 : decode b_M_bodyRow 12 = .ok (.getfield 7, 3) := by decide +kernel
theorem d_M_bodyRow_15 : decode b_M_bodyRow 15 = .ok (.bipush 8, 2) := by decide +kernel
theorem d_M_bodyRow_17 : decode b_M_bodyRow 17 = .ok (.iload 4, 2) := by decide +kernel
theorem d_M_bodyRow_19 : decode b_M_bodyRow 19 = .ok (.imul, 1) := by decide +kernel
theorem d_M_bodyRow_20 : decode b_M_bodyRow 20 = .ok (.iload_n 1, 1) := by decide +kernel
theorem d_M_bodyRow_21 : decode b_M_bodyRow 21 = .ok (.iadd, 1) := by decide +kernel
theorem d_M_bodyRow_22 : decode b_M_bodyRow 22 = .ok (.baload, 1) := by decide +kernel
theorem d_M_bodyRow_23 : decode b_M_bodyRow 23 = .ok (.ifCond .eq 13, 3) := by decide +kernel
theorem d_M_bodyRow_26 : decode b_M_bodyRow 26 = .ok (.bipush 8, 2) := by decide +kernel
theorem d_M_bodyRow_28 : decode b_M_bodyRow 28 = .ok (.iload 4, 2) := by decide +kernel
theorem d_M_bodyRow_30 : decode b_M_bodyRow 30 = .ok (.imul, 1) := by decide +kernel
theorem d_M_bodyRow_31 : decode b_M_bodyRow 31 = .ok (.iload_n 1, 1) := by decide +kernel
theorem d_M_bodyRow_32 : decode b_M_bodyRow 32 = .ok (.iadd, 1) := by decide +kernel
theorem d_M_bodyRow_33 : decode b_M_bodyRow 33 = .ok (.goto 4, 3) := by decide +kernel
theorem d_M_bodyRow_36 : decode b_M_bodyRow 36 = .ok (.iload_n 3, 1) := by decide +kernel
theorem d_M_bodyRow_37 : decode b_M_bodyRow 37 = .ok (.istore_n 3, 1) := by decide +kernel
theorem d_M_bodyRow_38 : decode b_M_bodyRow 38 = .ok (.iinc 4 1, 3) := by decide +kernel
theorem d_M_bodyRow_41 : decode b_M_bodyRow 41 = .ok (.goto (-36), 3) := by decide +kernel
theorem d_M_bodyRow_44 : decode b_M_bodyRow 44 = .ok (.iload_n 3, 1) := by decide +kernel
theorem d_M_bodyRow_45 : decode b_M_bodyRow 45 = .ok (.ireturn, 1) := by decide +kernel
theorem d_M_step_0 : decode b_M_step 0 = .ok (.aload_n 0, 1) := by decide +kernel
theorem d_M_step_1 : decode b_M_step 1 = .ok (.iload_n 1, 1) := by decide +kernel
theorem d_M_step_2 : decode b_M_step 2 = .ok (.iconst 0, 1) := by decide +kernel
theorem d_M_step_3 : decode b_M_step 3 = .ok (.aload_n 0, 1) := by decide +kernel
theorem d_M_step_4 : decode b_M_step 4 = .ok (.getfield 66, 3) := by decide +kernel
theorem d_M_step_7 : decode b_M_step 7 = .ok (.iconst 1, 1) := by decide +kernel
theorem d_M_step_8 : decode b_M_step 8 = .ok (.isub, 1) := by decide +kernel
theorem d_M_step_9 : decode b_M_step 9 = .ok (.invokestatic 72, 3) := by decide +kernel
theorem d_M_step_12 : decode b_M_step 12 = .ok (.ifCond .eq 17, 3) := by decide +kernel
theorem d_M_step_15 : decode b_M_step 15 = .ok (.iload_n 2, 1) := by decide +kernel
theorem d_M_step_16 : decode b_M_step 16 = .ok (.iconst 1, 1) := by decide +kernel
theorem d_M_step_17 : decode b_M_step 17 = .ok (.bipush 100, 2) := by decide +kernel
theorem d_M_step_19 : decode b_M_step 19 = .ok (.invokestatic 72, 3) := by decide +kernel
theorem d_M_step_22 : decode b_M_step 22 = .ok (.ifCond .eq 7, 3) := by decide +kernel
theorem d_M_step_25 : decode b_M_step 25 = .ok (.iconst 0, 1) := by decide +kernel
theorem d_M_step_26 : decode b_M_step 26 = .ok (.goto 4, 3) := by decide +kernel
theorem d_M_step_29 : decode b_M_step 29 = .ok (.iconst 1, 1) := by decide +kernel
theorem d_M_step_30 : decode b_M_step 30 = .ok (.putfield 63, 3) := by decide +kernel
theorem d_M_step_33 : decode b_M_step 33 = .ok (.iconst 0, 1) := by decide +kernel
theorem d_M_step_34 : decode b_M_step 34 = .ok (.istore_n 3, 1) := by decide +kernel
theorem d_M_step_35 : decode b_M_step 35 = .ok (.iconst 1, 1) := by decide +kernel
theorem d_M_step_36 : decode b_M_step 36 = .ok (.istore 4, 2) := by decide +kernel
theorem d_M_step_38 : decode b_M_step 38 = .ok (.iload 4, 2) := by decide +kernel
theorem d_M_step_40 : decode b_M_step 40 = .ok (.iload_n 2, 1) := by decide +kernel
theorem d_M_step_41 : decode b_M_step 41 = .ok (.if_icmp .gt 46, 3) := by decide +kernel
theorem d_M_step_44 : decode b_M_step 44 = .ok (.aload_n 0, 1) := by decide +kernel
theorem d_M_step_45 : decode b_M_step 45 = .ok (.getfield 63, 3) := by decide +kernel
theorem d_M_step_48 : decode b_M_step 48 = .ok (.ifCond .ne 39, 3) := by decide +kernel
theorem d_M_step_51 : decode b_M_step 51 = .ok (.aload_n 0, 1) := by decide +kernel
theorem d_M_step_52 : decode b_M_step 52 = .ok (.iload_n 1, 1) := by decide +kernel
theorem d_M_step_53 : decode b_M_step 53 = .ok (.invokevirtual 100, 3) := by decide +kernel
theorem d_M_step_56 : decode b_M_step 56 = .ok (.ifCond .eq 20, 3) := by decide +kernel
theorem d_M_step_59 : decode b_M_step 59 = .ok (.aload_n 0, 1) := by decide +kernel
theorem d_M_step_60 : decode b_M_step 60 = .ok (.getfield 33, 3) := by decide +kernel
theorem d_M_step_63 : decode b_M_step 63 = .ok (.iload_n 1, 1) := by decide +kernel
theorem d_M_step_64 : decode b_M_step 64 = .ok (.aload_n 0, 1) := by decide +kernel
theorem d_M_step_65 : decode b_M_step 65 = .ok (.getfield 26, 3) := by decide +kernel
theorem d_M_step_68 : decode b_M_step 68 = .ok (.iastore, 1) := by decide +kernel
theorem d_M_step_69 : decode b_M_step 69 = .ok (.aload_n 0, 1) := by decide +kernel
theorem d_M_step_70 : decode b_M_step 70 = .ok (.invokevirtual 90, 3) := by decide +kernel
theorem d_M_step_73 : decode b_M_step 73 = .ok (.iload 4, 2) := by decide +kernel
theorem d_M_step_75 : decode b_M_step 75 = .ok (.istore_n 3, 1) := by decide +kernel
theorem d_M_step_76 : decode b_M_step 76 = .ok (.aload_n 0, 1) := by decide +kernel
theorem d_M_step_77 : decode b_M_step 77 = .ok (.iload_n 1, 1) := by decide +kernel
theorem d_M_step_78 : decode b_M_step 78 = .ok (.invokevirtual 104, 3) := by decide +kernel
theorem d_M_step_81 : decode b_M_step 81 = .ok (.iinc 4 1, 3) := by decide +kernel
theorem d_M_step_84 : decode b_M_step 84 = .ok (.goto (-46), 3) := by decide +kernel
theorem d_M_step_87 : decode b_M_step 87 = .ok (.iload_n 3, 1) := by decide +kernel
theorem d_M_step_88 : decode b_M_step 88 = .ok (.ireturn, 1) := by decide +kernel
theorem d_M_goes_0 : decode b_M_goes 0 = .ok (.aload_n 0, 1) := by decide +kernel
theorem d_M_goes_1 : decode b_M_goes 1 = .ok (.getfield 26, 3) := by decide +kernel
theorem d_M_goes_4 : decode b_M_goes 4 = .ok (.ifCond .lt 16, 3) := by decide +kernel
theorem d_M_goes_7 : decode b_M_goes 7 = .ok (.aload_n 0, 1) := by decide +kernel
theorem d_M_goes_8 : decode b_M_goes 8 = .ok (.getfield 33, 3) := by decide +kernel
theorem d_M_goes_11 : decode b_M_goes 11 = .ok (.iload_n 1, 1) := by decide +kernel
theorem d_M_goes_12 : decode b_M_goes 12 = .ok (.iaload, 1) := by decide +kernel
theorem d_M_goes_13 : decode b_M_goes 13 = .ok (.aload_n 0, 1) := by decide +kernel
theorem d_M_goes_14 : decode b_M_goes 14 = .ok (.getfield 26, 3) := by decide +kernel
theorem d_M_goes_17 : decode b_M_goes 17 = .ok (.if_icmp .ne 5, 3) := by decide +kernel
theorem d_M_goes_20 : decode b_M_goes 20 = .ok (.iconst 0, 1) := by decide +kernel
theorem d_M_goes_21 : decode b_M_goes 21 = .ok (.ireturn, 1) := by decide +kernel
theorem d_M_goes_22 : decode b_M_goes 22 = .ok (.bipush 6, 2) := by decide +kernel
theorem d_M_goes_24 : decode b_M_goes 24 = .ok (.iload_n 1, 1) := by decide +kernel
theorem d_M_goes_25 : decode b_M_goes 25 = .ok (.imul, 1) := by decide +kernel
theorem d_M_goes_26 : decode b_M_goes 26 = .ok (.aload_n 0, 1) := by decide +kernel
theorem d_M_goes_27 : decode b_M_goes 27 = .ok (.getfield 48, 3) := by decide +kernel
theorem d_M_goes_30 : decode b_M_goes 30 = .ok (.iload_n 1, 1) := by decide +kernel
theorem d_M_goes_31 : decode b_M_goes 31 = .ok (.iaload, 1) := by decide +kernel
theorem d_M_goes_32 : decode b_M_goes 32 = .ok (.iadd, 1) := by decide +kernel
theorem d_M_goes_33 : decode b_M_goes 33 = .ok (.iconst 1, 1) := by decide +kernel
theorem d_M_goes_34 : decode b_M_goes 34 = .ok (.isub, 1) := by decide +kernel
theorem d_M_goes_35 : decode b_M_goes 35 = .ok (.istore_n 2, 1) := by decide +kernel
theorem d_M_goes_36 : decode b_M_goes 36 = .ok (.aload_n 0, 1) := by decide +kernel
theorem d_M_goes_37 : decode b_M_goes 37 = .ok (.getfield 57, 3) := by decide +kernel
theorem d_M_goes_40 : decode b_M_goes 40 = .ok (.iload_n 2, 1) := by decide +kernel
theorem d_M_goes_41 : decode b_M_goes 41 = .ok (.iaload, 1) := by decide +kernel
theorem d_M_goes_42 : decode b_M_goes 42 = .ok (.aload_n 0, 1) := by decide +kernel
theorem d_M_goes_43 : decode b_M_goes 43 = .ok (.getfield 17, 3) := by decide +kernel
theorem d_M_goes_46 : decode b_M_goes 46 = .ok (.aload_n 0, 1) := by decide +kernel
theorem d_M_goes_47 : decode b_M_goes 47 = .ok (.getfield 51, 3) := by decide +kernel
theorem d_M_goes_50 : decode b_M_goes 50 = .ok (.iload_n 2, 1) := by decide +kernel
theorem d_M_goes_51 : decode b_M_goes 51 = .ok (.iaload, 1) := by decide +kernel
theorem d_M_goes_52 : decode b_M_goes 52 = .ok (.iaload, 1) := by decide +kernel
theorem d_M_goes_53 : decode b_M_goes 53 = .ok (.if_icmp .ne 19, 3) := by decide +kernel
theorem d_M_goes_56 : decode b_M_goes 56 = .ok (.aload_n 0, 1) := by decide +kernel
theorem d_M_goes_57 : decode b_M_goes 57 = .ok (.getfield 48, 3) := by decide +kernel
theorem d_M_goes_60 : decode b_M_goes 60 = .ok (.iload_n 1, 1) := by decide +kernel
theorem d_M_goes_61 : decode b_M_goes 61 = .ok (.iaload, 1) := by decide +kernel
theorem d_M_goes_62 : decode b_M_goes 62 = .ok (.iconst 1, 1) := by decide +kernel
theorem d_M_goes_63 : decode b_M_goes 63 = .ok (.if_icmp .ne 7, 3) := by decide +kernel
theorem d_M_goes_66 : decode b_M_goes 66 = .ok (.iconst 1, 1) := by decide +kernel
theorem d_M_goes_67 : decode b_M_goes 67 = .ok (.goto 4, 3) := by decide +kernel
theorem d_M_goes_70 : decode b_M_goes 70 = .ok (.iconst 0, 1) := by decide +kernel
theorem d_M_goes_71 : decode b_M_goes 71 = .ok (.ireturn, 1) := by decide +kernel
theorem d_M_goes_72 : decode b_M_goes 72 = .ok (.aload_n 0, 1) := by decide +kernel
theorem d_M_goes_73 : decode b_M_goes 73 = .ok (.getfield 20, 3) := by decide +kernel
theorem d_M_goes_76 : decode b_M_goes 76 = .ok (.bipush 12, 2) := by decide +kernel
theorem d_M_goes_78 : decode b_M_goes 78 = .ok (.aload_n 0, 1) := by decide +kernel
theorem d_M_goes_79 : decode b_M_goes 79 = .ok (.getfield 51, 3) := by decide +kernel
theorem d_M_goes_82 : decode b_M_goes 82 = .ok (.iload_n 2, 1) := by decide +kernel
theorem d_M_goes_83 : decode b_M_goes 83 = .ok (.iaload, 1) := by decide +kernel
theorem d_M_goes_84 : decode b_M_goes 84 = .ok (.imul, 1) := by decide +kernel
theorem d_M_goes_85 : decode b_M_goes 85 = .ok (.aload_n 0, 1) := by decide +kernel
theorem d_M_goes_86 : decode b_M_goes 86 = .ok (.getfield 57, 3) := by decide +kernel
theorem d_M_goes_89 : decode b_M_goes 89 = .ok (.iload_n 2, 1) := by decide +kernel
theorem d_M_goes_90 : decode b_M_goes 90 = .ok (.iaload, 1) := by decide +kernel
theorem d_M_goes_91 : decode b_M_goes 91 = .ok (.iadd, 1) := by decide +kernel
theorem d_M_goes_92 : decode b_M_goes 92 = .ok (.iaload, 1) := by decide +kernel
theorem d_M_goes_93 : decode b_M_goes 93 = .ok (.iconst 2, 1) := by decide +kernel
theorem d_M_goes_94 : decode b_M_goes 94 = .ok (.if_icmp .eq 5, 3) := by decide +kernel
theorem d_M_goes_97 : decode b_M_goes 97 = .ok (.iconst 0, 1) := by decide +kernel
theorem d_M_goes_98 : decode b_M_goes 98 = .ok (.ireturn, 1) := by decide +kernel
theorem d_M_goes_99 : decode b_M_goes 99 = .ok (.iconst 0, 1) := by decide +kernel
theorem d_M_goes_100 : decode b_M_goes 100 = .ok (.istore_n 3, 1) := by decide +kernel
theorem d_M_goes_101 : decode b_M_goes 101 = .ok (.bipush 6, 2) := by decide +kernel
theorem d_M_goes_103 : decode b_M_goes 103 = .ok (.iload_n 1, 1) := by decide +kernel
theorem d_M_goes_104 : decode b_M_goes 104 = .ok (.imul, 1) := by decide +kernel
theorem d_M_goes_105 : decode b_M_goes 105 = .ok (.istore 4, 2) := by decide +kernel
theorem d_M_goes_107 : decode b_M_goes 107 = .ok (.iload 4, 2) := by decide +kernel
theorem d_M_goes_109 : decode b_M_goes 109 = .ok (.iload_n 2, 1) := by decide +kernel
theorem d_M_goes_110 : decode b_M_goes 110 = .ok (.if_icmp .gt 45, 3) := by decide +kernel
theorem d_M_goes_113 : decode b_M_goes 113 = .ok (.iload_n 3, 1) := by decide +kernel
theorem d_M_goes_114 : decode b_M_goes 114 = .ok (.ifCond .ne 29, 3) := by decide +kernel
theorem d_M_goes_117 : decode b_M_goes 117 = .ok (.aload_n 0, 1) := by decide +kernel
theorem d_M_goes_118 : decode b_M_goes 118 = .ok (.getfield 7, 3) := by decide +kernel
theorem d_M_goes_121 : decode b_M_goes 121 = .ok (.bipush 8, 2) := by decide +kernel
theorem d_M_goes_123 : decode b_M_goes 123 = .ok (.aload_n 0, 1) := by decide +kernel
theorem d_M_goes_124 : decode b_M_goes 124 = .ok (.getfield 69, 3) := by decide +kernel
theorem d_M_goes_127 : decode b_M_goes 127 = .ok (.imul, 1) := by decide +kernel
theorem d_M_goes_128 : decode b_M_goes 128 = .ok (.aload_n 0, 1) := by decide +kernel
theorem d_M_goes_129 : decode b_M_goes 129 = .ok (.getfield 51, 3) := by decide +kernel
theorem d_M_goes_132 : decode b_M_goes 132 = .ok (.iload 4, 2) := by decide +kernel
theorem d_M_goes_134 : decode b_M_goes 134 = .ok (.iaload, 1) := by decide +kernel
theorem d_M_goes_135 : decode b_M_goes 135 = .ok (.bipush 8, 2) := by decide +kernel
theorem d_M_goes_137 : decode b_M_goes 137 = .ok (.irem, 1) := by decide +kernel
theorem d_M_goes_138 : decode b_M_goes 138 = .ok (.iadd, 1) := by decide +kernel
theorem d_M_goes_139 : decode b_M_goes 139 = .ok (.baload, 1) := by decide +kernel
theorem d_M_goes_140 : decode b_M_goes 140 = .ok (.ifCond .eq 7, 3) := by decide +kernel
theorem d_M_goes_143 : decode b_M_goes 143 = .ok (.iconst 1, 1) := by decide +kernel
theorem d_M_goes_144 : decode b_M_goes 144 = .ok (.goto 4, 3) := by decide +kernel
theorem d_M_goes_147 : decode b_M_goes 147 = .ok (.iconst 0, 1) := by decide +kernel
theorem d_M_goes_148 : decode b_M_goes 148 = .ok (.istore_n 3, 1) := by decide +kernel
theorem d_M_goes_149 : decode b_M_goes 149 = .ok (.iinc 4 1, 3) := by decide +kernel
theorem d_M_goes_152 : decode b_M_goes 152 = .ok (.goto (-45), 3) := by decide +kernel
theorem d_M_goes_155 : decode b_M_goes 155 = .ok (.iload_n 3, 1) := by decide +kernel
theorem d_M_goes_156 : decode b_M_goes 156 = .ok (.ifCond .ne 7, 3) := by decide +kernel
theorem d_M_goes_159 : decode b_M_goes 159 = .ok (.iconst 1, 1) := by decide +kernel
theorem d_M_goes_160 : decode b_M_goes 160 = .ok (.goto 4, 3) := by decide +kernel
theorem d_M_goes_163 : decode b_M_goes 163 = .ok (.iconst 0, 1) := by decide +kernel
theorem d_M_goes_164 : decode b_M_goes 164 = .ok (.ireturn, 1) := by decide +kernel
theorem d_M_stepOnce_0 : decode b_M_stepOnce 0 = .ok (.aload_n 0, 1) := by decide +kernel
theorem d_M_stepOnce_1 : decode b_M_stepOnce 1 = .ok (.getfield 39, 3) := by decide +kernel
theorem d_M_stepOnce_4 : decode b_M_stepOnce 4 = .ok (.iload_n 1, 1) := by decide +kernel
theorem d_M_stepOnce_5 : decode b_M_stepOnce 5 = .ok (.dup2, 1) := by decide +kernel
theorem d_M_stepOnce_6 : decode b_M_stepOnce 6 = .ok (.iaload, 1) := by decide +kernel
theorem d_M_stepOnce_7 : decode b_M_stepOnce 7 = .ok (.iconst 1, 1) := by decide +kernel
theorem d_M_stepOnce_8 : decode b_M_stepOnce 8 = .ok (.iadd, 1) := by decide +kernel
theorem d_M_stepOnce_9 : decode b_M_stepOnce 9 = .ok (.iastore, 1) := by decide +kernel
theorem d_M_stepOnce_10 : decode b_M_stepOnce 10 = .ok (.bipush 6, 2) := by decide +kernel
theorem d_M_stepOnce_12 : decode b_M_stepOnce 12 = .ok (.iload_n 1, 1) := by decide +kernel
theorem d_M_stepOnce_13 : decode b_M_stepOnce 13 = .ok (.imul, 1) := by decide +kernel
theorem d_M_stepOnce_14 : decode b_M_stepOnce 14 = .ok (.aload_n 0, 1) := by decide +kernel
theorem d_M_stepOnce_15 : decode b_M_stepOnce 15 = .ok (.getfield 48, 3) := by decide +kernel
theorem d_M_stepOnce_18 : decode b_M_stepOnce 18 = .ok (.iload_n 1, 1) := by decide +kernel
theorem d_M_stepOnce_19 : decode b_M_stepOnce 19 = .ok (.iaload, 1) := by decide +kernel
theorem d_M_stepOnce_20 : decode b_M_stepOnce 20 = .ok (.iadd, 1) := by decide +kernel
theorem d_M_stepOnce_21 : decode b_M_stepOnce 21 = .ok (.iconst 1, 1) := by decide +kernel
theorem d_M_stepOnce_22 : decode b_M_stepOnce 22 = .ok (.isub, 1) := by decide +kernel
theorem d_M_stepOnce_23 : decode b_M_stepOnce 23 = .ok (.istore_n 2, 1) := by decide +kernel
theorem d_M_stepOnce_24 : decode b_M_stepOnce 24 = .ok (.aload_n 0, 1) := by decide +kernel
theorem d_M_stepOnce_25 : decode b_M_stepOnce 25 = .ok (.getfield 57, 3) := by decide +kernel
theorem d_M_stepOnce_28 : decode b_M_stepOnce 28 = .ok (.iload_n 2, 1) := by decide +kernel
theorem d_M_stepOnce_29 : decode b_M_stepOnce 29 = .ok (.iaload, 1) := by decide +kernel
theorem d_M_stepOnce_30 : decode b_M_stepOnce 30 = .ok (.aload_n 0, 1) := by decide +kernel
theorem d_M_stepOnce_31 : decode b_M_stepOnce 31 = .ok (.getfield 17, 3) := by decide +kernel
theorem d_M_stepOnce_34 : decode b_M_stepOnce 34 = .ok (.aload_n 0, 1) := by decide +kernel
theorem d_M_stepOnce_35 : decode b_M_stepOnce 35 = .ok (.getfield 51, 3) := by decide +kernel
theorem d_M_stepOnce_38 : decode b_M_stepOnce 38 = .ok (.iload_n 2, 1) := by decide +kernel
theorem d_M_stepOnce_39 : decode b_M_stepOnce 39 = .ok (.iaload, 1) := by decide +kernel
theorem d_M_stepOnce_40 : decode b_M_stepOnce 40 = .ok (.iaload, 1) := by decide +kernel
theorem d_M_stepOnce_41 : decode b_M_stepOnce 41 = .ok (.if_icmp .ne 34, 3) := by decide +kernel
theorem d_M_stepOnce_44 : decode b_M_stepOnce 44 = .ok (.aload_n 0, 1) := by decide +kernel
theorem d_M_stepOnce_45 : decode b_M_stepOnce 45 = .ok (.getfield 48, 3) := by decide +kernel
theorem d_M_stepOnce_48 : decode b_M_stepOnce 48 = .ok (.iload_n 1, 1) := by decide +kernel
theorem d_M_stepOnce_49 : decode b_M_stepOnce 49 = .ok (.dup2, 1) := by decide +kernel
theorem d_M_stepOnce_50 : decode b_M_stepOnce 50 = .ok (.iaload, 1) := by decide +kernel
theorem d_M_stepOnce_51 : decode b_M_stepOnce 51 = .ok (.iconst 1, 1) := by decide +kernel
theorem d_M_stepOnce_52 : decode b_M_stepOnce 52 = .ok (.isub, 1) := by decide +kernel
theorem d_M_stepOnce_53 : decode b_M_stepOnce 53 = .ok (.iastore, 1) := by decide +kernel
theorem d_M_stepOnce_54 : decode b_M_stepOnce 54 = .ok (.aload_n 0, 1) := by decide +kernel
theorem d_M_stepOnce_55 : decode b_M_stepOnce 55 = .ok (.getfield 48, 3) := by decide +kernel
theorem d_M_stepOnce_58 : decode b_M_stepOnce 58 = .ok (.iload_n 1, 1) := by decide +kernel
theorem d_M_stepOnce_59 : decode b_M_stepOnce 59 = .ok (.iaload, 1) := by decide +kernel
theorem d_M_stepOnce_60 : decode b_M_stepOnce 60 = .ok (.ifCond .ne 14, 3) := by decide +kernel
theorem d_M_stepOnce_63 : decode b_M_stepOnce 63 = .ok (.aload_n 0, 1) := by decide +kernel
theorem d_M_stepOnce_64 : decode b_M_stepOnce 64 = .ok (.iload_n 1, 1) := by decide +kernel
theorem d_M_stepOnce_65 : decode b_M_stepOnce 65 = .ok (.aload_n 0, 1) := by decide +kernel
theorem d_M_stepOnce_66 : decode b_M_stepOnce 66 = .ok (.getfield 30, 3) := by decide +kernel
theorem d_M_stepOnce_69 : decode b_M_stepOnce 69 = .ok (.iload_n 1, 1) := by decide +kernel
theorem d_M_stepOnce_70 : decode b_M_stepOnce 70 = .ok (.iaload, 1) := by decide +kernel
theorem d_M_stepOnce_71 : decode b_M_stepOnce 71 = .ok (.invokevirtual 97, 3) := by decide +kernel
theorem d_M_stepOnce_74 : decode b_M_stepOnce 74 = .ok (.return_, 1) := by decide +kernel
theorem d_M_stepOnce_75 : decode b_M_stepOnce 75 = .ok (.aload_n 0, 1) := by decide +kernel
theorem d_M_stepOnce_76 : decode b_M_stepOnce 76 = .ok (.getfield 20, 3) := by decide +kernel
theorem d_M_stepOnce_79 : decode b_M_stepOnce 79 = .ok (.bipush 12, 2) := by decide +kernel
theorem d_M_stepOnce_81 : decode b_M_stepOnce 81 = .ok (.aload_n 0, 1) := by decide +kernel
theorem d_M_stepOnce_82 : decode b_M_stepOnce 82 = .ok (.getfield 51, 3) := by decide +kernel
theorem d_M_stepOnce_85 : decode b_M_stepOnce 85 = .ok (.iload_n 2, 1) := by decide +kernel
theorem d_M_stepOnce_86 : decode b_M_stepOnce 86 = .ok (.iaload, 1) := by decide +kernel
theorem d_M_stepOnce_87 : decode b_M_stepOnce 87 = .ok (.imul, 1) := by decide +kernel
theorem d_M_stepOnce_88 : decode b_M_stepOnce 88 = .ok (.aload_n 0, 1) := by decide +kernel
theorem d_M_stepOnce_89 : decode b_M_stepOnce 89 = .ok (.getfield 57, 3) := by decide +kernel
theorem d_M_stepOnce_92 : decode b_M_stepOnce 92 = .ok (.iload_n 2, 1) := by decide +kernel
theorem d_M_stepOnce_93 : decode b_M_stepOnce 93 = .ok (.iaload, 1) := by decide +kernel
theorem d_M_stepOnce_94 : decode b_M_stepOnce 94 = .ok (.iadd, 1) := by decide +kernel
theorem d_M_stepOnce_95 : decode b_M_stepOnce 95 = .ok (.iaload, 1) := by decide +kernel
theorem d_M_stepOnce_96 : decode b_M_stepOnce 96 = .ok (.istore_n 3, 1) := by decide +kernel
theorem d_M_stepOnce_97 : decode b_M_stepOnce 97 = .ok (.aload_n 0, 1) := by decide +kernel
theorem d_M_stepOnce_98 : decode b_M_stepOnce 98 = .ok (.getfield 23, 3) := by decide +kernel
theorem d_M_stepOnce_101 : decode b_M_stepOnce 101 = .ok (.bipush 12, 2) := by decide +kernel
theorem d_M_stepOnce_103 : decode b_M_stepOnce 103 = .ok (.aload_n 0, 1) := by decide +kernel
theorem d_M_stepOnce_104 : decode b_M_stepOnce 104 = .ok (.getfield 51, 3) := by decide +kernel
theorem d_M_stepOnce_107 : decode b_M_stepOnce 107 = .ok (.iload_n 2, 1) := by decide +kernel
theorem d_M_stepOnce_108 : decode b_M_stepOnce 108 = .ok (.iaload, 1) := by decide +kernel
theorem d_M_stepOnce_109 : decode b_M_stepOnce 109 = .ok (.imul, 1) := by decide +kernel
theorem d_M_stepOnce_110 : decode b_M_stepOnce 110 = .ok (.aload_n 0, 1) := by decide +kernel
theorem d_M_stepOnce_111 : decode b_M_stepOnce 111 = .ok (.getfield 57, 3) := by decide +kernel
theorem d_M_stepOnce_114 : decode b_M_stepOnce 114 = .ok (.iload_n 2, 1) := by decide +kernel
theorem d_M_stepOnce_115 : decode b_M_stepOnce 115 = .ok (.iaload, 1) := by decide +kernel
theorem d_M_stepOnce_116 : decode b_M_stepOnce 116 = .ok (.iadd, 1) := by decide +kernel
theorem d_M_stepOnce_117 : decode b_M_stepOnce 117 = .ok (.iaload, 1) := by decide +kernel
theorem d_M_stepOnce_118 : decode b_M_stepOnce 118 = .ok (.istore 4, 2) := by decide +kernel
theorem d_M_stepOnce_120 : decode b_M_stepOnce 120 = .ok (.aload_n 0, 1) := by decide +kernel
theorem d_M_stepOnce_121 : decode b_M_stepOnce 121 = .ok (.getfield 57, 3) := by decide +kernel
theorem d_M_stepOnce_124 : decode b_M_stepOnce 124 = .ok (.iload_n 2, 1) := by decide +kernel
theorem d_M_stepOnce_125 : decode b_M_stepOnce 125 = .ok (.dup2, 1) := by decide +kernel
theorem d_M_stepOnce_126 : decode b_M_stepOnce 126 = .ok (.iaload, 1) := by decide +kernel
theorem d_M_stepOnce_127 : decode b_M_stepOnce 127 = .ok (.iconst 1, 1) := by decide +kernel
theorem d_M_stepOnce_128 : decode b_M_stepOnce 128 = .ok (.iadd, 1) := by decide +kernel
theorem d_M_stepOnce_129 : decode b_M_stepOnce 129 = .ok (.iastore, 1) := by decide +kernel
theorem d_M_stepOnce_130 : decode b_M_stepOnce 130 = .ok (.iload_n 3, 1) := by decide +kernel
theorem d_M_stepOnce_131 : decode b_M_stepOnce 131 = .ok (.ifCond .ne 18, 3) := by decide +kernel
theorem d_M_stepOnce_134 : decode b_M_stepOnce 134 = .ok (.aload_n 0, 1) := by decide +kernel
theorem d_M_stepOnce_135 : decode b_M_stepOnce 135 = .ok (.getfield 36, 3) := by decide +kernel
theorem d_M_stepOnce_138 : decode b_M_stepOnce 138 = .ok (.iload_n 1, 1) := by decide +kernel
theorem d_M_stepOnce_139 : decode b_M_stepOnce 139 = .ok (.aload_n 0, 1) := by decide +kernel
theorem d_M_stepOnce_140 : decode b_M_stepOnce 140 = .ok (.getfield 36, 3) := by decide +kernel
theorem d_M_stepOnce_143 : decode b_M_stepOnce 143 = .ok (.iload_n 1, 1) := by decide +kernel
theorem d_M_stepOnce_144 : decode b_M_stepOnce 144 = .ok (.iaload, 1) := by decide +kernel
theorem d_M_stepOnce_145 : decode b_M_stepOnce 145 = .ok (.iload 4, 2) := by decide +kernel
theorem d_M_stepOnce_147 : decode b_M_stepOnce 147 = .ok (.iadd, 1) := by decide +kernel
theorem d_M_stepOnce_148 : decode b_M_stepOnce 148 = .ok (.iastore, 1) := by decide +kernel
theorem d_M_stepOnce_149 : decode b_M_stepOnce 149 = .ok (.iload_n 3, 1) := by decide +kernel
theorem d_M_stepOnce_150 : decode b_M_stepOnce 150 = .ok (.iconst 1, 1) := by decide +kernel
theorem d_M_stepOnce_151 : decode b_M_stepOnce 151 = .ok (.if_icmp .eq 19, 3) := by decide +kernel
theorem d_M_stepOnce_154 : decode b_M_stepOnce 154 = .ok (.iload_n 3, 1) := by decide +kernel
theorem d_M_stepOnce_155 : decode b_M_stepOnce 155 = .ok (.iconst 5, 1) := by decide +kernel
theorem d_M_stepOnce_156 : decode b_M_stepOnce 156 = .ok (.if_icmp .ne 21, 3) := by decide +kernel
theorem d_M_stepOnce_159 : decode b_M_stepOnce 159 = .ok (.aload_n 0, 1) := by decide +kernel
theorem d_M_stepOnce_160 : decode b_M_stepOnce 160 = .ok (.getfield 36, 3) := by decide +kernel
theorem d_M_stepOnce_163 : decode b_M_stepOnce 163 = .ok (.iload_n 1, 1) := by decide +kernel
theorem d_M_stepOnce_164 : decode b_M_stepOnce 164 = .ok (.iaload, 1) := by decide +kernel
theorem d_M_stepOnce_165 : decode b_M_stepOnce 165 = .ok (.iconst 2, 1) := by decide +kernel
theorem d_M_stepOnce_166 : decode b_M_stepOnce 166 = .ok (.irem, 1) := by decide +kernel
theorem d_M_stepOnce_167 : decode b_M_stepOnce 167 = .ok (.ifCond .ne 10, 3) := by decide +kernel
theorem d_M_stepOnce_170 : decode b_M_stepOnce 170 = .ok (.aload_n 0, 1) := by decide +kernel
theorem d_M_stepOnce_171 : decode b_M_stepOnce 171 = .ok (.iload_n 1, 1) := by decide +kernel
theorem d_M_stepOnce_172 : decode b_M_stepOnce 172 = .ok (.iload 4, 2) := by decide +kernel
theorem d_M_stepOnce_174 : decode b_M_stepOnce 174 = .ok (.invokevirtual 97, 3) := by decide +kernel
theorem d_M_stepOnce_177 : decode b_M_stepOnce 177 = .ok (.iload_n 3, 1) := by decide +kernel
theorem d_M_stepOnce_178 : decode b_M_stepOnce 178 = .ok (.iconst 3, 1) := by decide +kernel
theorem d_M_stepOnce_179 : decode b_M_stepOnce 179 = .ok (.if_icmp .ne 31, 3) := by decide +kernel
theorem d_M_stepOnce_182 : decode b_M_stepOnce 182 = .ok (.aload_n 0, 1) := by decide +kernel
theorem d_M_stepOnce_183 : decode b_M_stepOnce 183 = .ok (.getfield 60, 3) := by decide +kernel
theorem d_M_stepOnce_186 : decode b_M_stepOnce 186 = .ok (.iload_n 2, 1) := by decide +kernel
theorem d_M_stepOnce_187 : decode b_M_stepOnce 187 = .ok (.iaload, 1) := by decide +kernel
theorem d_M_stepOnce_188 : decode b_M_stepOnce 188 = .ok (.iconst 3, 1) := by decide +kernel
theorem d_M_stepOnce_189 : decode b_M_stepOnce 189 = .ok (.if_icmp .ge 21, 3) := by decide +kernel
theorem d_M_stepOnce_192 : decode b_M_stepOnce 192 = .ok (.aload_n 0, 1) := by decide +kernel
theorem d_M_stepOnce_193 : decode b_M_stepOnce 193 = .ok (.getfield 60, 3) := by decide +kernel
theorem d_M_stepOnce_196 : decode b_M_stepOnce 196 = .ok (.iload_n 2, 1) := by decide +kernel
theorem d_M_stepOnce_197 : decode b_M_stepOnce 197 = .ok (.dup2, 1) := by decide +kernel
theorem d_M_stepOnce_198 : decode b_M_stepOnce 198 = .ok (.iaload, 1) := by decide +kernel
theorem d_M_stepOnce_199 : decode b_M_stepOnce 199 = .ok (.iconst 1, 1) := by decide +kernel
theorem d_M_stepOnce_200 : decode b_M_stepOnce 200 = .ok (.iadd, 1) := by decide +kernel
theorem d_M_stepOnce_201 : decode b_M_stepOnce 201 = .ok (.iastore, 1) := by decide +kernel
theorem d_M_stepOnce_202 : decode b_M_stepOnce 202 = .ok (.aload_n 0, 1) := by decide +kernel
theorem d_M_stepOnce_203 : decode b_M_stepOnce 203 = .ok (.getfield 57, 3) := by decide +kernel
theorem d_M_stepOnce_206 : decode b_M_stepOnce 206 = .ok (.iload_n 2, 1) := by decide +kernel
theorem d_M_stepOnce_207 : decode b_M_stepOnce 207 = .ok (.iload 4, 2) := by decide +kernel
theorem d_M_stepOnce_209 : decode b_M_stepOnce 209 = .ok (.iastore, 1) := by decide +kernel
theorem d_M_stepOnce_210 : decode b_M_stepOnce 210 = .ok (.iload_n 3, 1) := by decide +kernel
theorem d_M_stepOnce_211 : decode b_M_stepOnce 211 = .ok (.iconst 4, 1) := by decide +kernel
theorem d_M_stepOnce_212 : decode b_M_stepOnce 212 = .ok (.if_icmp .ne 25, 3) := by decide +kernel
theorem d_M_stepOnce_215 : decode b_M_stepOnce 215 = .ok (.aload_n 0, 1) := by decide +kernel
theorem d_M_stepOnce_216 : decode b_M_stepOnce 216 = .ok (.getfield 42, 3) := by decide +kernel
theorem d_M_stepOnce_219 : decode b_M_stepOnce 219 = .ok (.iload_n 1, 1) := by decide +kernel
theorem d_M_stepOnce_220 : decode b_M_stepOnce 220 = .ok (.dup2, 1) := by decide +kernel
theorem d_M_stepOnce_221 : decode b_M_stepOnce 221 = .ok (.iaload, 1) := by decide +kernel
theorem d_M_stepOnce_222 : decode b_M_stepOnce 222 = .ok (.iconst 1, 1) := by decide +kernel
theorem d_M_stepOnce_223 : decode b_M_stepOnce 223 = .ok (.iadd, 1) := by decide +kernel
theorem d_M_stepOnce_224 : decode b_M_stepOnce 224 = .ok (.iastore, 1) := by decide +kernel
theorem d_M_stepOnce_225 : decode b_M_stepOnce 225 = .ok (.aload_n 0, 1) := by decide +kernel
theorem d_M_stepOnce_226 : decode b_M_stepOnce 226 = .ok (.getfield 45, 3) := by decide +kernel
theorem d_M_stepOnce_229 : decode b_M_stepOnce 229 = .ok (.iload_n 1, 1) := by decide +kernel
theorem d_M_stepOnce_230 : decode b_M_stepOnce 230 = .ok (.aload_n 0, 1) := by decide +kernel
theorem d_M_stepOnce_231 : decode b_M_stepOnce 231 = .ok (.getfield 36, 3) := by decide +kernel
theorem d_M_stepOnce_234 : decode b_M_stepOnce 234 = .ok (.iload_n 1, 1) := by decide +kernel
theorem d_M_stepOnce_235 : decode b_M_stepOnce 235 = .ok (.iaload, 1) := by decide +kernel
theorem d_M_stepOnce_236 : decode b_M_stepOnce 236 = .ok (.iastore, 1) := by decide +kernel
theorem d_M_stepOnce_237 : decode b_M_stepOnce 237 = .ok (.return_, 1) := by decide +kernel
theorem d_M_look_0 : decode b_M_look 0 = .ok (.aload_n 0, 1) := by decide +kernel
theorem d_M_look_1 : decode b_M_look 1 = .ok (.iconst 0, 1) := by decide +kernel
theorem d_M_look_2 : decode b_M_look 2 = .ok (.putfield 63, 3) := by decide +kernel
theorem d_M_look_5 : decode b_M_look 5 = .ok (.iload_n 1, 1) := by decide +kernel
theorem d_M_look_6 : decode b_M_look 6 = .ok (.iconst 0, 1) := by decide +kernel
theorem d_M_look_7 : decode b_M_look 7 = .ok (.aload_n 0, 1) := by decide +kernel
theorem d_M_look_8 : decode b_M_look 8 = .ok (.getfield 66, 3) := by decide +kernel
theorem d_M_look_11 : decode b_M_look 11 = .ok (.iconst 1, 1) := by decide +kernel
theorem d_M_look_12 : decode b_M_look 12 = .ok (.isub, 1) := by decide +kernel
theorem d_M_look_13 : decode b_M_look 13 = .ok (.invokestatic 72, 3) := by decide +kernel
theorem d_M_look_16 : decode b_M_look 16 = .ok (.ifCond .eq 12, 3) := by decide +kernel
theorem d_M_look_19 : decode b_M_look 19 = .ok (.iload_n 2, 1) := by decide +kernel
theorem d_M_look_20 : decode b_M_look 20 = .ok (.iconst 0, 1) := by decide +kernel
theorem d_M_look_21 : decode b_M_look 21 = .ok (.iconst 5, 1) := by decide +kernel
theorem d_M_look_22 : decode b_M_look 22 = .ok (.invokestatic 72, 3) := by decide +kernel
theorem d_M_look_25 : decode b_M_look 25 = .ok (.ifCond .ne 9, 3) := by decide +kernel
theorem d_M_look_28 : decode b_M_look 28 = .ok (.aload_n 0, 1) := by decide +kernel
theorem d_M_look_29 : decode b_M_look 29 = .ok (.iconst 1, 1) := by decide +kernel
theorem d_M_look_30 : decode b_M_look 30 = .ok (.invokevirtual 108, 3) := by decide +kernel
theorem d_M_look_33 : decode b_M_look 33 = .ok (.ireturn, 1) := by decide +kernel
theorem d_M_look_34 : decode b_M_look 34 = .ok (.iload_n 2, 1) := by decide +kernel
theorem d_M_look_35 : decode b_M_look 35 = .ok (.ifCond .ne 12, 3) := by decide +kernel
theorem d_M_look_38 : decode b_M_look 38 = .ok (.aload_n 0, 1) := by decide +kernel
theorem d_M_look_39 : decode b_M_look 39 = .ok (.getfield 33, 3) := by decide +kernel
theorem d_M_look_42 : decode b_M_look 42 = .ok (.iload_n 1, 1) := by decide +kernel
theorem d_M_look_43 : decode b_M_look 43 = .ok (.iaload, 1) := by decide +kernel
theorem d_M_look_44 : decode b_M_look 44 = .ok (.goto 65, 3) := by decide +kernel
theorem d_M_look_47 : decode b_M_look 47 = .ok (.iload_n 2, 1) := by decide +kernel
theorem d_M_look_48 : decode b_M_look 48 = .ok (.iconst 1, 1) := by decide +kernel
theorem d_M_look_49 : decode b_M_look 49 = .ok (.if_icmp .ne 12, 3) := by decide +kernel
theorem d_M_look_52 : decode b_M_look 52 = .ok (.aload_n 0, 1) := by decide +kernel
theorem d_M_look_53 : decode b_M_look 53 = .ok (.getfield 36, 3) := by decide +kernel
theorem d_M_look_56 : decode b_M_look 56 = .ok (.iload_n 1, 1) := by decide +kernel
theorem d_M_look_57 : decode b_M_look 57 = .ok (.iaload, 1) := by decide +kernel
theorem d_M_look_58 : decode b_M_look 58 = .ok (.goto 51, 3) := by decide +kernel
theorem d_M_look_61 : decode b_M_look 61 = .ok (.iload_n 2, 1) := by decide +kernel
theorem d_M_look_62 : decode b_M_look 62 = .ok (.iconst 2, 1) := by decide +kernel
theorem d_M_look_63 : decode b_M_look 63 = .ok (.if_icmp .ne 12, 3) := by decide +kernel
theorem d_M_look_66 : decode b_M_look 66 = .ok (.aload_n 0, 1) := by decide +kernel
theorem d_M_look_67 : decode b_M_look 67 = .ok (.getfield 48, 3) := by decide +kernel
theorem d_M_look_70 : decode b_M_look 70 = .ok (.iload_n 1, 1) := by decide +kernel
theorem d_M_look_71 : decode b_M_look 71 = .ok (.iaload, 1) := by decide +kernel
theorem d_M_look_72 : decode b_M_look 72 = .ok (.goto 37, 3) := by decide +kernel
theorem d_M_look_75 : decode b_M_look 75 = .ok (.iload_n 2, 1) := by decide +kernel
theorem d_M_look_76 : decode b_M_look 76 = .ok (.iconst 3, 1) := by decide +kernel
theorem d_M_look_77 : decode b_M_look 77 = .ok (.if_icmp .ne 12, 3) := by decide +kernel
theorem d_M_look_80 : decode b_M_look 80 = .ok (.aload_n 0, 1) := by decide +kernel
theorem d_M_look_81 : decode b_M_look 81 = .ok (.getfield 39, 3) := by decide +kernel
theorem d_M_look_84 : decode b_M_look 84 = .ok (.iload_n 1, 1) := by decide +kernel
theorem d_M_look_85 : decode b_M_look 85 = .ok (.iaload, 1) := by decide +kernel
theorem d_M_look_86 : decode b_M_look 86 = .ok (.goto 23, 3) := by decide +kernel
theorem d_M_look_89 : decode b_M_look 89 = .ok (.iload_n 2, 1) := by decide +kernel
theorem d_M_look_90 : decode b_M_look 90 = .ok (.iconst 4, 1) := by decide +kernel
theorem d_M_look_91 : decode b_M_look 91 = .ok (.if_icmp .ne 12, 3) := by decide +kernel
theorem d_M_look_94 : decode b_M_look 94 = .ok (.aload_n 0, 1) := by decide +kernel
theorem d_M_look_95 : decode b_M_look 95 = .ok (.getfield 42, 3) := by decide +kernel
theorem d_M_look_98 : decode b_M_look 98 = .ok (.iload_n 1, 1) := by decide +kernel
theorem d_M_look_99 : decode b_M_look 99 = .ok (.iaload, 1) := by decide +kernel
theorem d_M_look_100 : decode b_M_look 100 = .ok (.goto 9, 3) := by decide +kernel
theorem d_M_look_103 : decode b_M_look 103 = .ok (.aload_n 0, 1) := by decide +kernel
theorem d_M_look_104 : decode b_M_look 104 = .ok (.getfield 45, 3) := by decide +kernel
theorem d_M_look_107 : decode b_M_look 107 = .ok (.iload_n 1, 1) := by decide +kernel
theorem d_M_look_108 : decode b_M_look 108 = .ok (.iaload, 1) := by decide +kernel
theorem d_M_look_109 : decode b_M_look 109 = .ok (.ireturn, 1) := by decide +kernel
theorem d_M_fail_0 : decode b_M_fail 0 = .ok (.aload_n 0, 1) := by decide +kernel
theorem d_M_fail_1 : decode b_M_fail 1 = .ok (.iload_n 1, 1) := by decide +kernel
theorem d_M_fail_2 : decode b_M_fail 2 = .ok (.putfield 63, 3) := by decide +kernel
theorem d_M_fail_5 : decode b_M_fail 5 = .ok (.iconst 0, 1) := by decide +kernel
theorem d_M_fail_6 : decode b_M_fail 6 = .ok (.ireturn, 1) := by decide +kernel
theorem d_M_frame_0 : decode b_M_frame 0 = .ok (.aload_n 0, 1) := by decide +kernel
theorem d_M_frame_1 : decode b_M_frame 1 = .ok (.iload_n 1, 1) := by decide +kernel
theorem d_M_frame_2 : decode b_M_frame 2 = .ok (.iconst 0, 1) := by decide +kernel
theorem d_M_frame_3 : decode b_M_frame 3 = .ok (.aload_n 0, 1) := by decide +kernel
theorem d_M_frame_4 : decode b_M_frame 4 = .ok (.getfield 66, 3) := by decide +kernel
theorem d_M_frame_7 : decode b_M_frame 7 = .ok (.iconst 1, 1) := by decide +kernel
theorem d_M_frame_8 : decode b_M_frame 8 = .ok (.isub, 1) := by decide +kernel
theorem d_M_frame_9 : decode b_M_frame 9 = .ok (.invokestatic 72, 3) := by decide +kernel
theorem d_M_frame_12 : decode b_M_frame 12 = .ok (.ifCond .eq 12, 3) := by decide +kernel
theorem d_M_frame_15 : decode b_M_frame 15 = .ok (.iload_n 3, 1) := by decide +kernel
theorem d_M_frame_16 : decode b_M_frame 16 = .ok (.iconst 0, 1) := by decide +kernel
theorem d_M_frame_17 : decode b_M_frame 17 = .ok (.iconst 2, 1) := by decide +kernel
theorem d_M_frame_18 : decode b_M_frame 18 = .ok (.invokestatic 72, 3) := by decide +kernel
theorem d_M_frame_21 : decode b_M_frame 21 = .ok (.ifCond .ne 7, 3) := by decide +kernel
theorem d_M_frame_24 : decode b_M_frame 24 = .ok (.iconst 1, 1) := by decide +kernel
theorem d_M_frame_25 : decode b_M_frame 25 = .ok (.goto 24, 3) := by decide +kernel
theorem d_M_frame_28 : decode b_M_frame 28 = .ok (.iload_n 2, 1) := by decide +kernel
theorem d_M_frame_29 : decode b_M_frame 29 = .ok (.iconst 0, 1) := by decide +kernel
theorem d_M_frame_30 : decode b_M_frame 30 = .ok (.aload_n 0, 1) := by decide +kernel
theorem d_M_frame_31 : decode b_M_frame 31 = .ok (.getfield 48, 3) := by decide +kernel
theorem d_M_frame_34 : decode b_M_frame 34 = .ok (.iload_n 1, 1) := by decide +kernel
theorem d_M_frame_35 : decode b_M_frame 35 = .ok (.iaload, 1) := by decide +kernel
theorem d_M_frame_36 : decode b_M_frame 36 = .ok (.iconst 1, 1) := by decide +kernel
theorem d_M_frame_37 : decode b_M_frame 37 = .ok (.isub, 1) := by decide +kernel
theorem d_M_frame_38 : decode b_M_frame 38 = .ok (.invokestatic 72, 3) := by decide +kernel
theorem d_M_frame_41 : decode b_M_frame 41 = .ok (.ifCond .eq 7, 3) := by decide +kernel
theorem d_M_frame_44 : decode b_M_frame 44 = .ok (.iconst 0, 1) := by decide +kernel
theorem d_M_frame_45 : decode b_M_frame 45 = .ok (.goto 4, 3) := by decide +kernel
theorem d_M_frame_48 : decode b_M_frame 48 = .ok (.iconst 2, 1) := by decide +kernel
theorem d_M_frame_49 : decode b_M_frame 49 = .ok (.putfield 63, 3) := by decide +kernel
theorem d_M_frame_52 : decode b_M_frame 52 = .ok (.aload_n 0, 1) := by decide +kernel
theorem d_M_frame_53 : decode b_M_frame 53 = .ok (.getfield 63, 3) := by decide +kernel
theorem d_M_frame_56 : decode b_M_frame 56 = .ok (.ifCond .le 5, 3) := by decide +kernel
theorem d_M_frame_59 : decode b_M_frame 59 = .ok (.iconst 0, 1) := by decide +kernel
theorem d_M_frame_60 : decode b_M_frame 60 = .ok (.ireturn, 1) := by decide +kernel
theorem d_M_frame_61 : decode b_M_frame 61 = .ok (.bipush 6, 2) := by decide +kernel
theorem d_M_frame_63 : decode b_M_frame 63 = .ok (.iload_n 1, 1) := by decide +kernel
theorem d_M_frame_64 : decode b_M_frame 64 = .ok (.imul, 1) := by decide +kernel
theorem d_M_frame_65 : decode b_M_frame 65 = .ok (.iload_n 2, 1) := by decide +kernel
theorem d_M_frame_66 : decode b_M_frame 66 = .ok (.iadd, 1) := by decide +kernel
theorem d_M_frame_67 : decode b_M_frame 67 = .ok (.istore 4, 2) := by decide +kernel
theorem d_M_frame_69 : decode b_M_frame 69 = .ok (.iload_n 3, 1) := by decide +kernel
theorem d_M_frame_70 : decode b_M_frame 70 = .ok (.ifCond .ne 16, 3) := by decide +kernel
theorem d_M_frame_73 : decode b_M_frame 73 = .ok (.aload_n 0, 1) := by decide +kernel
theorem d_M_frame_74 : decode b_M_frame 74 = .ok (.getfield 51, 3) := by decide +kernel
theorem d_M_frame_77 : decode b_M_frame 77 = .ok (.iload 4, 2) := by decide +kernel
theorem d_M_frame_79 : decode b_M_frame 79 = .ok (.iaload, 1) := by decide +kernel
theorem d_M_frame_80 : decode b_M_frame 80 = .ok (.bipush 8, 2) := by decide +kernel
theorem d_M_frame_82 : decode b_M_frame 82 = .ok (.irem, 1) := by decide +kernel
theorem d_M_frame_83 : decode b_M_frame 83 = .ok (.goto 25, 3) := by decide +kernel
theorem d_M_frame_86 : decode b_M_frame 86 = .ok (.iload_n 3, 1) := by decide +kernel
theorem d_M_frame_87 : decode b_M_frame 87 = .ok (.iconst 1, 1) := by decide +kernel
theorem d_M_frame_88 : decode b_M_frame 88 = .ok (.if_icmp .ne 13, 3) := by decide +kernel
theorem d_M_frame_91 : decode b_M_frame 91 = .ok (.aload_n 0, 1) := by decide +kernel
theorem d_M_frame_92 : decode b_M_frame 92 = .ok (.getfield 54, 3) := by decide +kernel
theorem d_M_frame_95 : decode b_M_frame 95 = .ok (.iload 4, 2) := by decide +kernel
theorem d_M_frame_97 : decode b_M_frame 97 = .ok (.iaload, 1) := by decide +kernel
theorem d_M_frame_98 : decode b_M_frame 98 = .ok (.goto 10, 3) := by decide +kernel
theorem d_M_frame_101 : decode b_M_frame 101 = .ok (.aload_n 0, 1) := by decide +kernel
theorem d_M_frame_102 : decode b_M_frame 102 = .ok (.getfield 57, 3) := by decide +kernel
theorem d_M_frame_105 : decode b_M_frame 105 = .ok (.iload 4, 2) := by decide +kernel
theorem d_M_frame_107 : decode b_M_frame 107 = .ok (.iaload, 1) := by decide +kernel
theorem d_M_frame_108 : decode b_M_frame 108 = .ok (.ireturn, 1) := by decide +kernel
theorem d_M_patches_0 : decode b_M_patches 0 = .ok (.aload_n 0, 1) := by decide +kernel
theorem d_M_patches_1 : decode b_M_patches 1 = .ok (.iconst 0, 1) := by decide +kernel
theorem d_M_patches_2 : decode b_M_patches 2 = .ok (.putfield 63, 3) := by decide +kernel
theorem d_M_patches_5 : decode b_M_patches 5 = .ok (.aload_n 0, 1) := by decide +kernel
theorem d_M_patches_6 : decode b_M_patches 6 = .ok (.getfield 69, 3) := by decide +kernel
theorem d_M_patches_9 : decode b_M_patches 9 = .ok (.ireturn, 1) := by decide +kernel
theorem d_M_target_0 : decode b_M_target 0 = .ok (.aload_n 0, 1) := by decide +kernel
theorem d_M_target_1 : decode b_M_target 1 = .ok (.iconst 0, 1) := by decide +kernel
theorem d_M_target_2 : decode b_M_target 2 = .ok (.putfield 63, 3) := by decide +kernel
theorem d_M_target_5 : decode b_M_target 5 = .ok (.aload_n 0, 1) := by decide +kernel
theorem d_M_target_6 : decode b_M_target 6 = .ok (.getfield 26, 3) := by decide +kernel
theorem d_M_target_9 : decode b_M_target 9 = .ok (.ireturn, 1) := by decide +kernel
theorem d_M_body_0 : decode b_M_body 0 = .ok (.aload_n 0, 1) := by decide +kernel
theorem d_M_body_1 : decode b_M_body 1 = .ok (.iload_n 1, 1) := by decide +kernel
theorem d_M_body_2 : decode b_M_body 2 = .ok (.iconst 0, 1) := by decide +kernel
theorem d_M_body_3 : decode b_M_body 3 = .ok (.aload_n 0, 1) := by decide +kernel
theorem d_M_body_4 : decode b_M_body 4 = .ok (.getfield 76, 3) := by decide +kernel
theorem d_M_body_7 : decode b_M_body 7 = .ok (.iconst 1, 1) := by decide +kernel
theorem d_M_body_8 : decode b_M_body 8 = .ok (.isub, 1) := by decide +kernel
theorem d_M_body_9 : decode b_M_body 9 = .ok (.invokestatic 72, 3) := by decide +kernel
theorem d_M_body_12 : decode b_M_body 12 = .ok (.ifCond .ne 7, 3) := by decide +kernel
theorem d_M_body_15 : decode b_M_body 15 = .ok (.iconst 1, 1) := by decide +kernel
theorem d_M_body_16 : decode b_M_body 16 = .ok (.goto 20, 3) := by decide +kernel
theorem d_M_body_19 : decode b_M_body 19 = .ok (.iload_n 2, 1) := by decide +kernel
theorem d_M_body_20 : decode b_M_body 20 = .ok (.iconst 0, 1) := by decide +kernel
theorem d_M_body_21 : decode b_M_body 21 = .ok (.aload_n 0, 1) := by decide +kernel
theorem d_M_body_22 : decode b_M_body 22 = .ok (.getfield 69, 3) := by decide +kernel
theorem d_M_body_25 : decode b_M_body 25 = .ok (.invokestatic 72, 3) := by decide +kernel
theorem d_M_body_28 : decode b_M_body 28 = .ok (.ifCond .eq 7, 3) := by decide +kernel
theorem d_M_body_31 : decode b_M_body 31 = .ok (.iconst 0, 1) := by decide +kernel
theorem d_M_body_32 : decode b_M_body 32 = .ok (.goto 4, 3) := by decide +kernel
theorem d_M_body_35 : decode b_M_body 35 = .ok (.iconst 2, 1) := by decide +kernel
theorem d_M_body_36 : decode b_M_body 36 = .ok (.putfield 63, 3) := by decide +kernel
theorem d_M_body_39 : decode b_M_body 39 = .ok (.aload_n 0, 1) := by decide +kernel
theorem d_M_body_40 : decode b_M_body 40 = .ok (.getfield 63, 3) := by decide +kernel
theorem d_M_body_43 : decode b_M_body 43 = .ok (.ifCond .le 7, 3) := by decide +kernel
theorem d_M_body_46 : decode b_M_body 46 = .ok (.iconst 0, 1) := by decide +kernel
theorem d_M_body_47 : decode b_M_body 47 = .ok (.goto 14, 3) := by decide +kernel
theorem d_M_body_50 : decode b_M_body 50 = .ok (.aload_n 0, 1) := by decide +kernel
theorem d_M_body_51 : decode b_M_body 51 = .ok (.getfield 17, 3) := by decide +kernel
theorem d_M_body_54 : decode b_M_body 54 = .ok (.aload_n 0, 1) := by decide +kernel
theorem d_M_body_55 : decode b_M_body 55 = .ok (.iload_n 1, 1) := by decide +kernel
theorem d_M_body_56 : decode b_M_body 56 = .ok (.iload_n 2, 1) := by decide +kernel
theorem d_M_body_57 : decode b_M_body 57 = .ok (.invokevirtual 93, 3) := by decide +kernel
theorem d_M_body_60 : decode b_M_body 60 = .ok (.iaload, 1) := by decide +kernel
theorem d_M_body_61 : decode b_M_body 61 = .ok (.ireturn, 1) := by decide +kernel
end
section
theorem d_L_function_0 : decode b_L_function 0 = .ok (.aload_n 2, 1) := by decide +kernel
theorem d_L_function_1 : decode b_L_function 1 = .ok (.iconst 0, 1) := by decide +kernel
theorem d_L_function_2 : decode b_L_function 2 = .ok (.aload_n 0, 1) := by decide +kernel
theorem d_L_function_3 : decode b_L_function 3 = .ok (.iload_n 1, 1) := by decide +kernel
theorem d_L_function_4 : decode b_L_function 4 = .ok (.invokevirtual 7, 3) := by decide +kernel
theorem d_L_function_7 : decode b_L_function 7 = .ok (.i2l, 1) := by decide +kernel
theorem d_L_function_8 : decode b_L_function 8 = .ok (.lastore, 1) := by decide +kernel
theorem d_L_function_9 : decode b_L_function 9 = .ok (.goto 9, 3) := by decide +kernel
theorem d_L_function_12 : decode b_L_function 12 = .ok (.astore_n 3, 1) := by decide +kernel
theorem d_L_function_13 : decode b_L_function 13 = .ok (.iconst 1, 1) := by decide +kernel
theorem d_L_function_14 : decode b_L_function 14 = .ok (.ireturn, 1) := by decide +kernel
theorem d_L_function_15 : decode b_L_function 15 = .ok (.astore_n 3, 1) := by decide +kernel
theorem d_L_function_16 : decode b_L_function 16 = .ok (.iconst 2, 1) := by decide +kernel
theorem d_L_function_17 : decode b_L_function 17 = .ok (.ireturn, 1) := by decide +kernel
theorem d_L_function_18 : decode b_L_function 18 = .ok (.iconst 0, 1) := by decide +kernel
theorem d_L_function_19 : decode b_L_function 19 = .ok (.ireturn, 1) := by decide +kernel
theorem d_L_operation_0 : decode b_L_operation 0 = .ok (.aload 5, 2) := by decide +kernel
theorem d_L_operation_2 : decode b_L_operation 2 = .ok (.iconst 0, 1) := by decide +kernel
theorem d_L_operation_3 : decode b_L_operation 3 = .ok (.aload_n 0, 1) := by decide +kernel
theorem d_L_operation_4 : decode b_L_operation 4 = .ok (.iload_n 1, 1) := by decide +kernel
theorem d_L_operation_5 : decode b_L_operation 5 = .ok (.iload_n 2, 1) := by decide +kernel
theorem d_L_operation_6 : decode b_L_operation 6 = .ok (.iload_n 3, 1) := by decide +kernel
theorem d_L_operation_7 : decode b_L_operation 7 = .ok (.iload 4, 2) := by decide +kernel
theorem d_L_operation_9 : decode b_L_operation 9 = .ok (.invokevirtual 17, 3) := by decide +kernel
theorem d_L_operation_12 : decode b_L_operation 12 = .ok (.i2l, 1) := by decide +kernel
theorem d_L_operation_13 : decode b_L_operation 13 = .ok (.lastore, 1) := by decide +kernel
theorem d_L_operation_14 : decode b_L_operation 14 = .ok (.goto 11, 3) := by decide +kernel
theorem d_L_operation_17 : decode b_L_operation 17 = .ok (.astore 6, 2) := by decide +kernel
theorem d_L_operation_19 : decode b_L_operation 19 = .ok (.iconst 1, 1) := by decide +kernel
theorem d_L_operation_20 : decode b_L_operation 20 = .ok (.ireturn, 1) := by decide +kernel
theorem d_L_operation_21 : decode b_L_operation 21 = .ok (.astore 6, 2) := by decide +kernel
theorem d_L_operation_23 : decode b_L_operation 23 = .ok (.iconst 2, 1) := by decide +kernel
theorem d_L_operation_24 : decode b_L_operation 24 = .ok (.ireturn, 1) := by decide +kernel
theorem d_L_operation_25 : decode b_L_operation 25 = .ok (.iconst 0, 1) := by decide +kernel
theorem d_L_operation_26 : decode b_L_operation 26 = .ok (.ireturn, 1) := by decide +kernel
theorem d_L_name_0 : decode b_L_name 0 = .ok (.aload_n 3, 1) := by decide +kernel
theorem d_L_name_1 : decode b_L_name 1 = .ok (.iconst 0, 1) := by decide +kernel
theorem d_L_name_2 : decode b_L_name 2 = .ok (.aload_n 0, 1) := by decide +kernel
theorem d_L_name_3 : decode b_L_name 3 = .ok (.iload_n 1, 1) := by decide +kernel
theorem d_L_name_4 : decode b_L_name 4 = .ok (.iload_n 2, 1) := by decide +kernel
theorem d_L_name_5 : decode b_L_name 5 = .ok (.invokevirtual 21, 3) := by decide +kernel
theorem d_L_name_8 : decode b_L_name 8 = .ok (.i2l, 1) := by decide +kernel
theorem d_L_name_9 : decode b_L_name 9 = .ok (.lastore, 1) := by decide +kernel
theorem d_L_name_10 : decode b_L_name 10 = .ok (.goto 7, 3) := by decide +kernel
theorem d_L_name_13 : decode b_L_name 13 = .ok (.astore 4, 2) := by decide +kernel
theorem d_L_name_15 : decode b_L_name 15 = .ok (.iconst 1, 1) := by decide +kernel
theorem d_L_name_16 : decode b_L_name 16 = .ok (.ireturn, 1) := by decide +kernel
theorem d_L_name_17 : decode b_L_name 17 = .ok (.iconst 0, 1) := by decide +kernel
theorem d_L_name_18 : decode b_L_name 18 = .ok (.ireturn, 1) := by decide +kernel
theorem d_L_apply_0 : decode b_L_apply 0 = .ok (.aload_n 1, 1) := by decide +kernel
theorem d_L_apply_1 : decode b_L_apply 1 = .ok (.iconst 0, 1) := by decide +kernel
theorem d_L_apply_2 : decode b_L_apply 2 = .ok (.aload_n 0, 1) := by decide +kernel
theorem d_L_apply_3 : decode b_L_apply 3 = .ok (.invokevirtual 25, 3) := by decide +kernel
theorem d_L_apply_6 : decode b_L_apply 6 = .ok (.i2l, 1) := by decide +kernel
theorem d_L_apply_7 : decode b_L_apply 7 = .ok (.lastore, 1) := by decide +kernel
theorem d_L_apply_8 : decode b_L_apply 8 = .ok (.goto 12, 3) := by decide +kernel
theorem d_L_apply_11 : decode b_L_apply 11 = .ok (.astore_n 2, 1) := by decide +kernel
theorem d_L_apply_12 : decode b_L_apply 12 = .ok (.iconst 1, 1) := by decide +kernel
theorem d_L_apply_13 : decode b_L_apply 13 = .ok (.ireturn, 1) := by decide +kernel
theorem d_L_apply_14 : decode b_L_apply 14 = .ok (.astore_n 2, 1) := by decide +kernel
theorem d_L_apply_15 : decode b_L_apply 15 = .ok (.iconst 2, 1) := by decide +kernel
theorem d_L_apply_16 : decode b_L_apply 16 = .ok (.ireturn, 1) := by decide +kernel
theorem d_L_apply_17 : decode b_L_apply 17 = .ok (.astore_n 2, 1) := by decide +kernel
theorem d_L_apply_18 : decode b_L_apply 18 = .ok (.iconst 3, 1) := by decide +kernel
theorem d_L_apply_19 : decode b_L_apply 19 = .ok (.ireturn, 1) := by decide +kernel
theorem d_L_apply_20 : decode b_L_apply 20 = .ok (.iconst 0, 1) := by decide +kernel
theorem d_L_apply_21 : decode b_L_apply 21 = .ok (.ireturn, 1) := by decide +kernel
theorem d_L_turn_0 : decode b_L_turn 0 = .ok (.aload_n 1, 1) := by decide +kernel
theorem d_L_turn_1 : decode b_L_turn 1 = .ok (.iconst 0, 1) := by decide +kernel
theorem d_L_turn_2 : decode b_L_turn 2 = .ok (.aload_n 0, 1) := by decide +kernel
theorem d_L_turn_3 : decode b_L_turn 3 = .ok (.invokevirtual 31, 3) := by decide +kernel
theorem d_L_turn_6 : decode b_L_turn 6 = .ok (.i2l, 1) := by decide +kernel
theorem d_L_turn_7 : decode b_L_turn 7 = .ok (.lastore, 1) := by decide +kernel
theorem d_L_turn_8 : decode b_L_turn 8 = .ok (.goto 6, 3) := by decide +kernel
theorem d_L_turn_11 : decode b_L_turn 11 = .ok (.astore_n 2, 1) := by decide +kernel
theorem d_L_turn_12 : decode b_L_turn 12 = .ok (.iconst 1, 1) := by decide +kernel
theorem d_L_turn_13 : decode b_L_turn 13 = .ok (.ireturn, 1) := by decide +kernel
theorem d_L_turn_14 : decode b_L_turn 14 = .ok (.iconst 0, 1) := by decide +kernel
theorem d_L_turn_15 : decode b_L_turn 15 = .ok (.ireturn, 1) := by decide +kernel
theorem d_L_task_0 : decode b_L_task 0 = .ok (.aload_n 2, 1) := by decide +kernel
theorem d_L_task_1 : decode b_L_task 1 = .ok (.iconst 0, 1) := by decide +kernel
theorem d_L_task_2 : decode b_L_task 2 = .ok (.aload_n 0, 1) := by decide +kernel
theorem d_L_task_3 : decode b_L_task 3 = .ok (.iload_n 1, 1) := by decide +kernel
theorem d_L_task_4 : decode b_L_task 4 = .ok (.invokevirtual 34, 3) := by decide +kernel
theorem d_L_task_7 : decode b_L_task 7 = .ok (.i2l, 1) := by decide +kernel
theorem d_L_task_8 : decode b_L_task 8 = .ok (.lastore, 1) := by decide +kernel
theorem d_L_task_9 : decode b_L_task 9 = .ok (.goto 9, 3) := by decide +kernel
theorem d_L_task_12 : decode b_L_task 12 = .ok (.astore_n 3, 1) := by decide +kernel
theorem d_L_task_13 : decode b_L_task 13 = .ok (.iconst 1, 1) := by decide +kernel
theorem d_L_task_14 : decode b_L_task 14 = .ok (.ireturn, 1) := by decide +kernel
theorem d_L_task_15 : decode b_L_task 15 = .ok (.astore_n 3, 1) := by decide +kernel
theorem d_L_task_16 : decode b_L_task 16 = .ok (.iconst 2, 1) := by decide +kernel
theorem d_L_task_17 : decode b_L_task 17 = .ok (.ireturn, 1) := by decide +kernel
theorem d_L_task_18 : decode b_L_task 18 = .ok (.iconst 0, 1) := by decide +kernel
theorem d_L_task_19 : decode b_L_task 19 = .ok (.ireturn, 1) := by decide +kernel
theorem d_L_step_0 : decode b_L_step 0 = .ok (.aload_n 3, 1) := by decide +kernel
theorem d_L_step_1 : decode b_L_step 1 = .ok (.iconst 0, 1) := by decide +kernel
theorem d_L_step_2 : decode b_L_step 2 = .ok (.aload_n 0, 1) := by decide +kernel
theorem d_L_step_3 : decode b_L_step 3 = .ok (.iload_n 1, 1) := by decide +kernel
theorem d_L_step_4 : decode b_L_step 4 = .ok (.iload_n 2, 1) := by decide +kernel
theorem d_L_step_5 : decode b_L_step 5 = .ok (.invokevirtual 37, 3) := by decide +kernel
theorem d_L_step_8 : decode b_L_step 8 = .ok (.i2l, 1) := by decide +kernel
theorem d_L_step_9 : decode b_L_step 9 = .ok (.lastore, 1) := by decide +kernel
theorem d_L_step_10 : decode b_L_step 10 = .ok (.goto 7, 3) := by decide +kernel
theorem d_L_step_13 : decode b_L_step 13 = .ok (.astore 4, 2) := by decide +kernel
theorem d_L_step_15 : decode b_L_step 15 = .ok (.iconst 1, 1) := by decide +kernel
theorem d_L_step_16 : decode b_L_step 16 = .ok (.ireturn, 1) := by decide +kernel
theorem d_L_step_17 : decode b_L_step 17 = .ok (.iconst 0, 1) := by decide +kernel
theorem d_L_step_18 : decode b_L_step 18 = .ok (.ireturn, 1) := by decide +kernel
theorem d_L_look_0 : decode b_L_look 0 = .ok (.aload_n 3, 1) := by decide +kernel
theorem d_L_look_1 : decode b_L_look 1 = .ok (.iconst 0, 1) := by decide +kernel
theorem d_L_look_2 : decode b_L_look 2 = .ok (.aload_n 0, 1) := by decide +kernel
theorem d_L_look_3 : decode b_L_look 3 = .ok (.iload_n 1, 1) := by decide +kernel
theorem d_L_look_4 : decode b_L_look 4 = .ok (.iload_n 2, 1) := by decide +kernel
theorem d_L_look_5 : decode b_L_look 5 = .ok (.invokevirtual 40, 3) := by decide +kernel
theorem d_L_look_8 : decode b_L_look 8 = .ok (.i2l, 1) := by decide +kernel
theorem d_L_look_9 : decode b_L_look 9 = .ok (.lastore, 1) := by decide +kernel
theorem d_L_look_10 : decode b_L_look 10 = .ok (.goto 7, 3) := by decide +kernel
theorem d_L_look_13 : decode b_L_look 13 = .ok (.astore 4, 2) := by decide +kernel
theorem d_L_look_15 : decode b_L_look 15 = .ok (.iconst 1, 1) := by decide +kernel
theorem d_L_look_16 : decode b_L_look 16 = .ok (.ireturn, 1) := by decide +kernel
theorem d_L_look_17 : decode b_L_look 17 = .ok (.iconst 0, 1) := by decide +kernel
theorem d_L_look_18 : decode b_L_look 18 = .ok (.ireturn, 1) := by decide +kernel
theorem d_L_frame_0 : decode b_L_frame 0 = .ok (.aload 4, 2) := by decide +kernel
theorem d_L_frame_2 : decode b_L_frame 2 = .ok (.iconst 0, 1) := by decide +kernel
theorem d_L_frame_3 : decode b_L_frame 3 = .ok (.aload_n 0, 1) := by decide +kernel
theorem d_L_frame_4 : decode b_L_frame 4 = .ok (.iload_n 1, 1) := by decide +kernel
theorem d_L_frame_5 : decode b_L_frame 5 = .ok (.iload_n 2, 1) := by decide +kernel
theorem d_L_frame_6 : decode b_L_frame 6 = .ok (.iload_n 3, 1) := by decide +kernel
theorem d_L_frame_7 : decode b_L_frame 7 = .ok (.invokevirtual 43, 3) := by decide +kernel
theorem d_L_frame_10 : decode b_L_frame 10 = .ok (.i2l, 1) := by decide +kernel
theorem d_L_frame_11 : decode b_L_frame 11 = .ok (.lastore, 1) := by decide +kernel
theorem d_L_frame_12 : decode b_L_frame 12 = .ok (.goto 11, 3) := by decide +kernel
theorem d_L_frame_15 : decode b_L_frame 15 = .ok (.astore 5, 2) := by decide +kernel
theorem d_L_frame_17 : decode b_L_frame 17 = .ok (.iconst 1, 1) := by decide +kernel
theorem d_L_frame_18 : decode b_L_frame 18 = .ok (.ireturn, 1) := by decide +kernel
theorem d_L_frame_19 : decode b_L_frame 19 = .ok (.astore 5, 2) := by decide +kernel
theorem d_L_frame_21 : decode b_L_frame 21 = .ok (.iconst 2, 1) := by decide +kernel
theorem d_L_frame_22 : decode b_L_frame 22 = .ok (.ireturn, 1) := by decide +kernel
theorem d_L_frame_23 : decode b_L_frame 23 = .ok (.iconst 0, 1) := by decide +kernel
theorem d_L_frame_24 : decode b_L_frame 24 = .ok (.ireturn, 1) := by decide +kernel
theorem d_L_body_0 : decode b_L_body 0 = .ok (.aload_n 3, 1) := by decide +kernel
theorem d_L_body_1 : decode b_L_body 1 = .ok (.iconst 0, 1) := by decide +kernel
theorem d_L_body_2 : decode b_L_body 2 = .ok (.aload_n 0, 1) := by decide +kernel
theorem d_L_body_3 : decode b_L_body 3 = .ok (.iload_n 1, 1) := by decide +kernel
theorem d_L_body_4 : decode b_L_body 4 = .ok (.iload_n 2, 1) := by decide +kernel
theorem d_L_body_5 : decode b_L_body 5 = .ok (.invokevirtual 49, 3) := by decide +kernel
theorem d_L_body_8 : decode b_L_body 8 = .ok (.i2l, 1) := by decide +kernel
theorem d_L_body_9 : decode b_L_body 9 = .ok (.lastore, 1) := by decide +kernel
theorem d_L_body_10 : decode b_L_body 10 = .ok (.goto 11, 3) := by decide +kernel
theorem d_L_body_13 : decode b_L_body 13 = .ok (.astore 4, 2) := by decide +kernel
theorem d_L_body_15 : decode b_L_body 15 = .ok (.iconst 1, 1) := by decide +kernel
theorem d_L_body_16 : decode b_L_body 16 = .ok (.ireturn, 1) := by decide +kernel
theorem d_L_body_17 : decode b_L_body 17 = .ok (.astore 4, 2) := by decide +kernel
theorem d_L_body_19 : decode b_L_body 19 = .ok (.iconst 2, 1) := by decide +kernel
theorem d_L_body_20 : decode b_L_body 20 = .ok (.ireturn, 1) := by decide +kernel
theorem d_L_body_21 : decode b_L_body 21 = .ok (.iconst 0, 1) := by decide +kernel
theorem d_L_body_22 : decode b_L_body 22 = .ok (.ireturn, 1) := by decide +kernel
theorem d_law_0 : decode code 0 = .ok (.new 8, 3) := by decide +kernel
theorem d_law_3 : decode code 3 = .ok (.dup, 1) := by decide +kernel
theorem d_law_4 : decode code 4 = .ok (.invokespecial 52, 3) := by decide +kernel
theorem d_law_7 : decode code 7 = .ok (.astore_n 1, 1) := by decide +kernel
theorem d_law_8 : decode code 8 = .ok (.new 53, 3) := by decide +kernel
theorem d_law_11 : decode code 11 = .ok (.dup, 1) := by decide +kernel
theorem d_law_12 : decode code 12 = .ok (.invokespecial 55, 3) := by decide +kernel
theorem d_law_15 : decode code 15 = .ok (.astore_n 2, 1) := by decide +kernel
theorem d_law_16 : decode code 16 = .ok (.iconst 1, 1) := by decide +kernel
theorem d_law_17 : decode code 17 = .ok (.newarray .long, 2) := by decide +kernel
theorem d_law_19 : decode code 19 = .ok (.astore_n 3, 1) := by decide +kernel
theorem d_law_20 : decode code 20 = .ok (.iconst 0, 1) := by decide +kernel
theorem d_law_21 : decode code 21 = .ok (.istore 4, 2) := by decide +kernel
theorem d_law_23 : decode code 23 = .ok (.iload 4, 2) := by decide +kernel
theorem d_law_25 : decode code 25 = .ok (.aload_n 0, 1) := by decide +kernel
theorem d_law_26 : decode code 26 = .ok (.arraylength, 1) := by decide +kernel
theorem d_law_27 : decode code 27 = .ok (.iconst 5, 1) := by decide +kernel
theorem d_law_28 : decode code 28 = .ok (.isub, 1) := by decide +kernel
theorem d_law_29 : decode code 29 = .ok (.if_icmp .gt 763, 3) := by decide +kernel
theorem d_law_32 : decode code 32 = .ok (.aload_n 0, 1) := by decide +kernel
theorem d_law_33 : decode code 33 = .ok (.iload 4, 2) := by decide +kernel
theorem d_law_35 : decode code 35 = .ok (.iaload, 1) := by decide +kernel
theorem d_law_36 : decode code 36 = .ok (.bipush 15, 2) := by decide +kernel
theorem d_law_38 : decode code 38 = .ok (.iand, 1) := by decide +kernel
theorem d_law_39 : decode code 39 = .ok (.tableswitch 747 0 11 #[61, 117, 225, 293, 337, 381, 437, 505, 573, 653, 666, 679], 61) := by decide +kernel
theorem d_law_100 : decode code 100 = .ok (.aload_n 1, 1) := by decide +kernel
theorem d_law_101 : decode code 101 = .ok (.aload_n 0, 1) := by decide +kernel
theorem d_law_102 : decode code 102 = .ok (.iload 4, 2) := by decide +kernel
theorem d_law_104 : decode code 104 = .ok (.iconst 1, 1) := by decide +kernel
theorem d_law_105 : decode code 105 = .ok (.iadd, 1) := by decide +kernel
theorem d_law_106 : decode code 106 = .ok (.iaload, 1) := by decide +kernel
theorem d_law_107 : decode code 107 = .ok (.aload_n 3, 1) := by decide +kernel
theorem d_law_108 : decode code 108 = .ok (.invokestatic 56, 3) := by decide +kernel
theorem d_law_111 : decode code 111 = .ok (.istore 5, 2) := by decide +kernel
theorem d_law_113 : decode code 113 = .ok (.aload_n 2, 1) := by decide +kernel
theorem d_law_114 : decode code 114 = .ok (.aload_n 0, 1) := by decide +kernel
theorem d_law_115 : decode code 115 = .ok (.iload 4, 2) := by decide +kernel
theorem d_law_117 : decode code 117 = .ok (.iconst 1, 1) := by decide +kernel
theorem d_law_118 : decode code 118 = .ok (.iadd, 1) := by decide +kernel
theorem d_law_119 : decode code 119 = .ok (.iaload, 1) := by decide +kernel
theorem d_law_120 : decode code 120 = .ok (.invokevirtual 61, 3) := by decide +kernel
theorem d_law_123 : decode code 123 = .ok (.istore 6, 2) := by decide +kernel
theorem d_law_125 : decode code 125 = .ok (.aload_n 2, 1) := by decide +kernel
theorem d_law_126 : decode code 126 = .ok (.invokevirtual 62, 3) := by decide +kernel
theorem d_law_129 : decode code 129 = .ok (.iload 5, 2) := by decide +kernel
theorem d_law_131 : decode code 131 = .ok (.if_icmp .eq 5, 3) := by decide +kernel
theorem d_law_134 : decode code 134 = .ok (.iconst 0, 1) := by decide +kernel
theorem d_law_135 : decode code 135 = .ok (.ireturn, 1) := by decide +kernel
theorem d_law_136 : decode code 136 = .ok (.iload 5, 2) := by decide +kernel
theorem d_law_138 : decode code 138 = .ok (.ifCond .ne 15, 3) := by decide +kernel
theorem d_law_141 : decode code 141 = .ok (.aload_n 3, 1) := by decide +kernel
theorem d_law_142 : decode code 142 = .ok (.iconst 0, 1) := by decide +kernel
theorem d_law_143 : decode code 143 = .ok (.laload, 1) := by decide +kernel
theorem d_law_144 : decode code 144 = .ok (.iload 6, 2) := by decide +kernel
theorem d_law_146 : decode code 146 = .ok (.i2l, 1) := by decide +kernel
theorem d_law_147 : decode code 147 = .ok (.lcmp, 1) := by decide +kernel
theorem d_law_148 : decode code 148 = .ok (.ifCond .eq 5, 3) := by decide +kernel
theorem d_law_151 : decode code 151 = .ok (.iconst 0, 1) := by decide +kernel
theorem d_law_152 : decode code 152 = .ok (.ireturn, 1) := by decide +kernel
theorem d_law_153 : decode code 153 = .ok (.goto 633, 3) := by decide +kernel
theorem d_law_156 : decode code 156 = .ok (.aload_n 1, 1) := by decide +kernel
theorem d_law_157 : decode code 157 = .ok (.aload_n 0, 1) := by decide +kernel
theorem d_law_158 : decode code 158 = .ok (.iload 4, 2) := by decide +kernel
theorem d_law_160 : decode code 160 = .ok (.iconst 1, 1) := by decide +kernel
theorem d_law_161 : decode code 161 = .ok (.iadd, 1) := by decide +kernel
theorem d_law_162 : decode code 162 = .ok (.iaload, 1) := by decide +kernel
theorem d_law_163 : decode code 163 = .ok (.aload_n 0, 1) := by decide +kernel
theorem d_law_164 : decode code 164 = .ok (.iload 4, 2) := by decide +kernel
theorem d_law_166 : decode code 166 = .ok (.iconst 2, 1) := by decide +kernel
theorem d_law_167 : decode code 167 = .ok (.iadd, 1) := by decide +kernel
theorem d_law_168 : decode code 168 = .ok (.iaload, 1) := by decide +kernel
theorem d_law_169 : decode code 169 = .ok (.ifCond .eq 7, 3) := by decide +kernel
theorem d_law_172 : decode code 172 = .ok (.iconst 1, 1) := by decide +kernel
theorem d_law_173 : decode code 173 = .ok (.goto 4, 3) := by decide +kernel
theorem d_law_176 : decode code 176 = .ok (.iconst 0, 1) := by decide +kernel
theorem d_law_177 : decode code 177 = .ok (.aload_n 0, 1) := by decide +kernel
theorem d_law_178 : decode code 178 = .ok (.iload 4, 2) := by decide +kernel
theorem d_law_180 : decode code 180 = .ok (.iconst 3, 1) := by decide +kernel
theorem d_law_181 : decode code 181 = .ok (.iadd, 1) := by decide +kernel
theorem d_law_182 : decode code 182 = .ok (.iaload, 1) := by decide +kernel
theorem d_law_183 : decode code 183 = .ok (.aload_n 0, 1) := by decide +kernel
theorem d_law_184 : decode code 184 = .ok (.iload 4, 2) := by decide +kernel
theorem d_law_186 : decode code 186 = .ok (.iconst 4, 1) := by decide +kernel
theorem d_law_187 : decode code 187 = .ok (.iadd, 1) := by decide +kernel
theorem d_law_188 : decode code 188 = .ok (.iaload, 1) := by decide +kernel
theorem d_law_189 : decode code 189 = .ok (.aload_n 3, 1) := by decide +kernel
theorem d_law_190 : decode code 190 = .ok (.invokestatic 65, 3) := by decide +kernel
theorem d_law_193 : decode code 193 = .ok (.istore 5, 2) := by decide +kernel
theorem d_law_195 : decode code 195 = .ok (.aload_n 2, 1) := by decide +kernel
theorem d_law_196 : decode code 196 = .ok (.aload_n 0, 1) := by decide +kernel
theorem d_law_197 : decode code 197 = .ok (.iload 4, 2) := by decide +kernel
theorem d_law_199 : decode code 199 = .ok (.iconst 1, 1) := by decide +kernel
theorem d_law_200 : decode code 200 = .ok (.iadd, 1) := by decide +kernel
theorem d_law_201 : decode code 201 = .ok (.iaload, 1) := by decide +kernel
theorem d_law_202 : decode code 202 = .ok (.aload_n 0, 1) := by decide +kernel
theorem d_law_203 : decode code 203 = .ok (.iload 4, 2) := by decide +kernel
theorem d_law_205 : decode code 205 = .ok (.iconst 2, 1) := by decide +kernel
theorem d_law_206 : decode code 206 = .ok (.iadd, 1) := by decide +kernel
theorem d_law_207 : decode code 207 = .ok (.iaload, 1) := by decide +kernel
theorem d_law_208 : decode code 208 = .ok (.ifCond .eq 7, 3) := by decide +kernel
theorem d_law_211 : decode code 211 = .ok (.iconst 1, 1) := by decide +kernel
theorem d_law_212 : decode code 212 = .ok (.goto 4, 3) := by decide +kernel
theorem d_law_215 : decode code 215 = .ok (.iconst 0, 1) := by decide +kernel
theorem d_law_216 : decode code 216 = .ok (.aload_n 0, 1) := by decide +kernel
theorem d_law_217 : decode code 217 = .ok (.iload 4, 2) := by decide +kernel
theorem d_law_219 : decode code 219 = .ok (.iconst 3, 1) := by decide +kernel
theorem d_law_220 : decode code 220 = .ok (.iadd, 1) := by decide +kernel
theorem d_law_221 : decode code 221 = .ok (.iaload, 1) := by decide +kernel
theorem d_law_222 : decode code 222 = .ok (.aload_n 0, 1) := by decide +kernel
theorem d_law_223 : decode code 223 = .ok (.iload 4, 2) := by decide +kernel
theorem d_law_225 : decode code 225 = .ok (.iconst 4, 1) := by decide +kernel
theorem d_law_226 : decode code 226 = .ok (.iadd, 1) := by decide +kernel
theorem d_law_227 : decode code 227 = .ok (.iaload, 1) := by decide +kernel
theorem d_law_228 : decode code 228 = .ok (.invokevirtual 68, 3) := by decide +kernel
theorem d_law_231 : decode code 231 = .ok (.istore 6, 2) := by decide +kernel
theorem d_law_233 : decode code 233 = .ok (.aload_n 2, 1) := by decide +kernel
theorem d_law_234 : decode code 234 = .ok (.invokevirtual 62, 3) := by decide +kernel
theorem d_law_237 : decode code 237 = .ok (.iload 5, 2) := by decide +kernel
theorem d_law_239 : decode code 239 = .ok (.if_icmp .eq 5, 3) := by decide +kernel
theorem d_law_242 : decode code 242 = .ok (.iconst 0, 1) := by decide +kernel
theorem d_law_243 : decode code 243 = .ok (.ireturn, 1) := by decide +kernel
theorem d_law_244 : decode code 244 = .ok (.iload 5, 2) := by decide +kernel
theorem d_law_246 : decode code 246 = .ok (.ifCond .ne 15, 3) := by decide +kernel
theorem d_law_249 : decode code 249 = .ok (.aload_n 3, 1) := by decide +kernel
theorem d_law_250 : decode code 250 = .ok (.iconst 0, 1) := by decide +kernel
theorem d_law_251 : decode code 251 = .ok (.laload, 1) := by decide +kernel
theorem d_law_252 : decode code 252 = .ok (.iload 6, 2) := by decide +kernel
theorem d_law_254 : decode code 254 = .ok (.i2l, 1) := by decide +kernel
theorem d_law_255 : decode code 255 = .ok (.lcmp, 1) := by decide +kernel
theorem d_law_256 : decode code 256 = .ok (.ifCond .eq 5, 3) := by decide +kernel
theorem d_law_259 : decode code 259 = .ok (.iconst 0, 1) := by decide +kernel
theorem d_law_260 : decode code 260 = .ok (.ireturn, 1) := by decide +kernel
theorem d_law_261 : decode code 261 = .ok (.goto 525, 3) := by decide +kernel
theorem d_law_264 : decode code 264 = .ok (.aload_n 1, 1) := by decide +kernel
theorem d_law_265 : decode code 265 = .ok (.aload_n 0, 1) := by decide +kernel
theorem d_law_266 : decode code 266 = .ok (.iload 4, 2) := by decide +kernel
theorem d_law_268 : decode code 268 = .ok (.iconst 1, 1) := by decide +kernel
theorem d_law_269 : decode code 269 = .ok (.iadd, 1) := by decide +kernel
theorem d_law_270 : decode code 270 = .ok (.iaload, 1) := by decide +kernel
theorem d_law_271 : decode code 271 = .ok (.aload_n 0, 1) := by decide +kernel
theorem d_law_272 : decode code 272 = .ok (.iload 4, 2) := by decide +kernel
theorem d_law_274 : decode code 274 = .ok (.iconst 2, 1) := by decide +kernel
theorem d_law_275 : decode code 275 = .ok (.iadd, 1) := by decide +kernel
theorem d_law_276 : decode code 276 = .ok (.iaload, 1) := by decide +kernel
theorem d_law_277 : decode code 277 = .ok (.aload_n 3, 1) := by decide +kernel
theorem d_law_278 : decode code 278 = .ok (.invokestatic 69, 3) := by decide +kernel
theorem d_law_281 : decode code 281 = .ok (.istore 5, 2) := by decide +kernel
theorem d_law_283 : decode code 283 = .ok (.aload_n 2, 1) := by decide +kernel
theorem d_law_284 : decode code 284 = .ok (.aload_n 0, 1) := by decide +kernel
theorem d_law_285 : decode code 285 = .ok (.iload 4, 2) := by decide +kernel
theorem d_law_287 : decode code 287 = .ok (.iconst 1, 1) := by decide +kernel
theorem d_law_288 : decode code 288 = .ok (.iadd, 1) := by decide +kernel
theorem d_law_289 : decode code 289 = .ok (.iaload, 1) := by decide +kernel
theorem d_law_290 : decode code 290 = .ok (.aload_n 0, 1) := by decide +kernel
theorem d_law_291 : decode code 291 = .ok (.iload 4, 2) := by decide +kernel
theorem d_law_293 : decode code 293 = .ok (.iconst 2, 1) := by decide +kernel
theorem d_law_294 : decode code 294 = .ok (.iadd, 1) := by decide +kernel
theorem d_law_295 : decode code 295 = .ok (.iaload, 1) := by decide +kernel
theorem d_law_296 : decode code 296 = .ok (.invokevirtual 72, 3) := by decide +kernel
theorem d_law_299 : decode code 299 = .ok (.istore 6, 2) := by decide +kernel
theorem d_law_301 : decode code 301 = .ok (.aload_n 2, 1) := by decide +kernel
theorem d_law_302 : decode code 302 = .ok (.invokevirtual 62, 3) := by decide +kernel
theorem d_law_305 : decode code 305 = .ok (.iload 5, 2) := by decide +kernel
theorem d_law_307 : decode code 307 = .ok (.if_icmp .eq 5, 3) := by decide +kernel
theorem d_law_310 : decode code 310 = .ok (.iconst 0, 1) := by decide +kernel
theorem d_law_311 : decode code 311 = .ok (.ireturn, 1) := by decide +kernel
theorem d_law_312 : decode code 312 = .ok (.iload 5, 2) := by decide +kernel
theorem d_law_314 : decode code 314 = .ok (.ifCond .ne 15, 3) := by decide +kernel
theorem d_law_317 : decode code 317 = .ok (.aload_n 3, 1) := by decide +kernel
theorem d_law_318 : decode code 318 = .ok (.iconst 0, 1) := by decide +kernel
theorem d_law_319 : decode code 319 = .ok (.laload, 1) := by decide +kernel
theorem d_law_320 : decode code 320 = .ok (.iload 6, 2) := by decide +kernel
theorem d_law_322 : decode code 322 = .ok (.i2l, 1) := by decide +kernel
theorem d_law_323 : decode code 323 = .ok (.lcmp, 1) := by decide +kernel
theorem d_law_324 : decode code 324 = .ok (.ifCond .eq 5, 3) := by decide +kernel
theorem d_law_327 : decode code 327 = .ok (.iconst 0, 1) := by decide +kernel
theorem d_law_328 : decode code 328 = .ok (.ireturn, 1) := by decide +kernel
theorem d_law_329 : decode code 329 = .ok (.goto 457, 3) := by decide +kernel
theorem d_law_332 : decode code 332 = .ok (.aload_n 1, 1) := by decide +kernel
theorem d_law_333 : decode code 333 = .ok (.aload_n 3, 1) := by decide +kernel
theorem d_law_334 : decode code 334 = .ok (.invokestatic 73, 3) := by decide +kernel
theorem d_law_337 : decode code 337 = .ok (.istore 5, 2) := by decide +kernel
theorem d_law_339 : decode code 339 = .ok (.aload_n 2, 1) := by decide +kernel
theorem d_law_340 : decode code 340 = .ok (.invokevirtual 76, 3) := by decide +kernel
theorem d_law_343 : decode code 343 = .ok (.istore 6, 2) := by decide +kernel
theorem d_law_345 : decode code 345 = .ok (.aload_n 2, 1) := by decide +kernel
theorem d_law_346 : decode code 346 = .ok (.invokevirtual 62, 3) := by decide +kernel
theorem d_law_349 : decode code 349 = .ok (.iload 5, 2) := by decide +kernel
theorem d_law_351 : decode code 351 = .ok (.if_icmp .eq 5, 3) := by decide +kernel
theorem d_law_354 : decode code 354 = .ok (.iconst 0, 1) := by decide +kernel
theorem d_law_355 : decode code 355 = .ok (.ireturn, 1) := by decide +kernel
theorem d_law_356 : decode code 356 = .ok (.iload 5, 2) := by decide +kernel
theorem d_law_358 : decode code 358 = .ok (.ifCond .ne 15, 3) := by decide +kernel
theorem d_law_361 : decode code 361 = .ok (.aload_n 3, 1) := by decide +kernel
theorem d_law_362 : decode code 362 = .ok (.iconst 0, 1) := by decide +kernel
theorem d_law_363 : decode code 363 = .ok (.laload, 1) := by decide +kernel
theorem d_law_364 : decode code 364 = .ok (.iload 6, 2) := by decide +kernel
theorem d_law_366 : decode code 366 = .ok (.i2l, 1) := by decide +kernel
theorem d_law_367 : decode code 367 = .ok (.lcmp, 1) := by decide +kernel
theorem d_law_368 : decode code 368 = .ok (.ifCond .eq 5, 3) := by decide +kernel
theorem d_law_371 : decode code 371 = .ok (.iconst 0, 1) := by decide +kernel
theorem d_law_372 : decode code 372 = .ok (.ireturn, 1) := by decide +kernel
theorem d_law_373 : decode code 373 = .ok (.goto 413, 3) := by decide +kernel
theorem d_law_376 : decode code 376 = .ok (.aload_n 1, 1) := by decide +kernel
theorem d_law_377 : decode code 377 = .ok (.aload_n 3, 1) := by decide +kernel
theorem d_law_378 : decode code 378 = .ok (.invokestatic 77, 3) := by decide +kernel
theorem d_law_381 : decode code 381 = .ok (.istore 5, 2) := by decide +kernel
theorem d_law_383 : decode code 383 = .ok (.aload_n 2, 1) := by decide +kernel
theorem d_law_384 : decode code 384 = .ok (.invokevirtual 79, 3) := by decide +kernel
theorem d_law_387 : decode code 387 = .ok (.istore 6, 2) := by decide +kernel
theorem d_law_389 : decode code 389 = .ok (.aload_n 2, 1) := by decide +kernel
theorem d_law_390 : decode code 390 = .ok (.invokevirtual 62, 3) := by decide +kernel
theorem d_law_393 : decode code 393 = .ok (.iload 5, 2) := by decide +kernel
theorem d_law_395 : decode code 395 = .ok (.if_icmp .eq 5, 3) := by decide +kernel
theorem d_law_398 : decode code 398 = .ok (.iconst 0, 1) := by decide +kernel
theorem d_law_399 : decode code 399 = .ok (.ireturn, 1) := by decide +kernel
theorem d_law_400 : decode code 400 = .ok (.iload 5, 2) := by decide +kernel
theorem d_law_402 : decode code 402 = .ok (.ifCond .ne 15, 3) := by decide +kernel
theorem d_law_405 : decode code 405 = .ok (.aload_n 3, 1) := by decide +kernel
theorem d_law_406 : decode code 406 = .ok (.iconst 0, 1) := by decide +kernel
theorem d_law_407 : decode code 407 = .ok (.laload, 1) := by decide +kernel
theorem d_law_408 : decode code 408 = .ok (.iload 6, 2) := by decide +kernel
theorem d_law_410 : decode code 410 = .ok (.i2l, 1) := by decide +kernel
theorem d_law_411 : decode code 411 = .ok (.lcmp, 1) := by decide +kernel
theorem d_law_412 : decode code 412 = .ok (.ifCond .eq 5, 3) := by decide +kernel
theorem d_law_415 : decode code 415 = .ok (.iconst 0, 1) := by decide +kernel
theorem d_law_416 : decode code 416 = .ok (.ireturn, 1) := by decide +kernel
theorem d_law_417 : decode code 417 = .ok (.goto 369, 3) := by decide +kernel
theorem d_law_420 : decode code 420 = .ok (.aload_n 1, 1) := by decide +kernel
theorem d_law_421 : decode code 421 = .ok (.aload_n 0, 1) := by decide +kernel
theorem d_law_422 : decode code 422 = .ok (.iload 4, 2) := by decide +kernel
theorem d_law_424 : decode code 424 = .ok (.iconst 1, 1) := by decide +kernel
theorem d_law_425 : decode code 425 = .ok (.iadd, 1) := by decide +kernel
theorem d_law_426 : decode code 426 = .ok (.iaload, 1) := by decide +kernel
theorem d_law_427 : decode code 427 = .ok (.aload_n 3, 1) := by decide +kernel
theorem d_law_428 : decode code 428 = .ok (.invokestatic 80, 3) := by decide +kernel
theorem d_law_431 : decode code 431 = .ok (.istore 5, 2) := by decide +kernel
theorem d_law_433 : decode code 433 = .ok (.aload_n 2, 1) := by decide +kernel
theorem d_law_434 : decode code 434 = .ok (.aload_n 0, 1) := by decide +kernel
theorem d_law_435 : decode code 435 = .ok (.iload 4, 2) := by decide +kernel
theorem d_law_437 : decode code 437 = .ok (.iconst 1, 1) := by decide +kernel
theorem d_law_438 : decode code 438 = .ok (.iadd, 1) := by decide +kernel
theorem d_law_439 : decode code 439 = .ok (.iaload, 1) := by decide +kernel
theorem d_law_440 : decode code 440 = .ok (.invokevirtual 82, 3) := by decide +kernel
theorem d_law_443 : decode code 443 = .ok (.istore 6, 2) := by decide +kernel
theorem d_law_445 : decode code 445 = .ok (.aload_n 2, 1) := by decide +kernel
theorem d_law_446 : decode code 446 = .ok (.invokevirtual 62, 3) := by decide +kernel
theorem d_law_449 : decode code 449 = .ok (.iload 5, 2) := by decide +kernel
theorem d_law_451 : decode code 451 = .ok (.if_icmp .eq 5, 3) := by decide +kernel
theorem d_law_454 : decode code 454 = .ok (.iconst 0, 1) := by decide +kernel
theorem d_law_455 : decode code 455 = .ok (.ireturn, 1) := by decide +kernel
theorem d_law_456 : decode code 456 = .ok (.iload 5, 2) := by decide +kernel
theorem d_law_458 : decode code 458 = .ok (.ifCond .ne 15, 3) := by decide +kernel
theorem d_law_461 : decode code 461 = .ok (.aload_n 3, 1) := by decide +kernel
theorem d_law_462 : decode code 462 = .ok (.iconst 0, 1) := by decide +kernel
theorem d_law_463 : decode code 463 = .ok (.laload, 1) := by decide +kernel
theorem d_law_464 : decode code 464 = .ok (.iload 6, 2) := by decide +kernel
theorem d_law_466 : decode code 466 = .ok (.i2l, 1) := by decide +kernel
theorem d_law_467 : decode code 467 = .ok (.lcmp, 1) := by decide +kernel
theorem d_law_468 : decode code 468 = .ok (.ifCond .eq 5, 3) := by decide +kernel
theorem d_law_471 : decode code 471 = .ok (.iconst 0, 1) := by decide +kernel
theorem d_law_472 : decode code 472 = .ok (.ireturn, 1) := by decide +kernel
theorem d_law_473 : decode code 473 = .ok (.goto 313, 3) := by decide +kernel
theorem d_law_476 : decode code 476 = .ok (.aload_n 1, 1) := by decide +kernel
theorem d_law_477 : decode code 477 = .ok (.aload_n 0, 1) := by decide +kernel
theorem d_law_478 : decode code 478 = .ok (.iload 4, 2) := by decide +kernel
theorem d_law_480 : decode code 480 = .ok (.iconst 1, 1) := by decide +kernel
theorem d_law_481 : decode code 481 = .ok (.iadd, 1) := by decide +kernel
theorem d_law_482 : decode code 482 = .ok (.iaload, 1) := by decide +kernel
theorem d_law_483 : decode code 483 = .ok (.aload_n 0, 1) := by decide +kernel
theorem d_law_484 : decode code 484 = .ok (.iload 4, 2) := by decide +kernel
theorem d_law_486 : decode code 486 = .ok (.iconst 2, 1) := by decide +kernel
theorem d_law_487 : decode code 487 = .ok (.iadd, 1) := by decide +kernel
theorem d_law_488 : decode code 488 = .ok (.iaload, 1) := by decide +kernel
theorem d_law_489 : decode code 489 = .ok (.aload_n 3, 1) := by decide +kernel
theorem d_law_490 : decode code 490 = .ok (.invokestatic 83, 3) := by decide +kernel
theorem d_law_493 : decode code 493 = .ok (.istore 5, 2) := by decide +kernel
theorem d_law_495 : decode code 495 = .ok (.aload_n 2, 1) := by decide +kernel
theorem d_law_496 : decode code 496 = .ok (.aload_n 0, 1) := by decide +kernel
theorem d_law_497 : decode code 497 = .ok (.iload 4, 2) := by decide +kernel
theorem d_law_499 : decode code 499 = .ok (.iconst 1, 1) := by decide +kernel
theorem d_law_500 : decode code 500 = .ok (.iadd, 1) := by decide +kernel
theorem d_law_501 : decode code 501 = .ok (.iaload, 1) := by decide +kernel
theorem d_law_502 : decode code 502 = .ok (.aload_n 0, 1) := by decide +kernel
theorem d_law_503 : decode code 503 = .ok (.iload 4, 2) := by decide +kernel
theorem d_law_505 : decode code 505 = .ok (.iconst 2, 1) := by decide +kernel
theorem d_law_506 : decode code 506 = .ok (.iadd, 1) := by decide +kernel
theorem d_law_507 : decode code 507 = .ok (.iaload, 1) := by decide +kernel
theorem d_law_508 : decode code 508 = .ok (.invokevirtual 85, 3) := by decide +kernel
theorem d_law_511 : decode code 511 = .ok (.istore 6, 2) := by decide +kernel
theorem d_law_513 : decode code 513 = .ok (.aload_n 2, 1) := by decide +kernel
theorem d_law_514 : decode code 514 = .ok (.invokevirtual 62, 3) := by decide +kernel
theorem d_law_517 : decode code 517 = .ok (.iload 5, 2) := by decide +kernel
theorem d_law_519 : decode code 519 = .ok (.if_icmp .eq 5, 3) := by decide +kernel
theorem d_law_522 : decode code 522 = .ok (.iconst 0, 1) := by decide +kernel
theorem d_law_523 : decode code 523 = .ok (.ireturn, 1) := by decide +kernel
theorem d_law_524 : decode code 524 = .ok (.iload 5, 2) := by decide +kernel
theorem d_law_526 : decode code 526 = .ok (.ifCond .ne 15, 3) := by decide +kernel
theorem d_law_529 : decode code 529 = .ok (.aload_n 3, 1) := by decide +kernel
theorem d_law_530 : decode code 530 = .ok (.iconst 0, 1) := by decide +kernel
theorem d_law_531 : decode code 531 = .ok (.laload, 1) := by decide +kernel
theorem d_law_532 : decode code 532 = .ok (.iload 6, 2) := by decide +kernel
theorem d_law_534 : decode code 534 = .ok (.i2l, 1) := by decide +kernel
theorem d_law_535 : decode code 535 = .ok (.lcmp, 1) := by decide +kernel
theorem d_law_536 : decode code 536 = .ok (.ifCond .eq 5, 3) := by decide +kernel
theorem d_law_539 : decode code 539 = .ok (.iconst 0, 1) := by decide +kernel
theorem d_law_540 : decode code 540 = .ok (.ireturn, 1) := by decide +kernel
theorem d_law_541 : decode code 541 = .ok (.goto 245, 3) := by decide +kernel
theorem d_law_544 : decode code 544 = .ok (.aload_n 1, 1) := by decide +kernel
theorem d_law_545 : decode code 545 = .ok (.aload_n 0, 1) := by decide +kernel
theorem d_law_546 : decode code 546 = .ok (.iload 4, 2) := by decide +kernel
theorem d_law_548 : decode code 548 = .ok (.iconst 1, 1) := by decide +kernel
theorem d_law_549 : decode code 549 = .ok (.iadd, 1) := by decide +kernel
theorem d_law_550 : decode code 550 = .ok (.iaload, 1) := by decide +kernel
theorem d_law_551 : decode code 551 = .ok (.aload_n 0, 1) := by decide +kernel
theorem d_law_552 : decode code 552 = .ok (.iload 4, 2) := by decide +kernel
theorem d_law_554 : decode code 554 = .ok (.iconst 2, 1) := by decide +kernel
theorem d_law_555 : decode code 555 = .ok (.iadd, 1) := by decide +kernel
theorem d_law_556 : decode code 556 = .ok (.iaload, 1) := by decide +kernel
theorem d_law_557 : decode code 557 = .ok (.aload_n 3, 1) := by decide +kernel
theorem d_law_558 : decode code 558 = .ok (.invokestatic 86, 3) := by decide +kernel
theorem d_law_561 : decode code 561 = .ok (.istore 5, 2) := by decide +kernel
theorem d_law_563 : decode code 563 = .ok (.aload_n 2, 1) := by decide +kernel
theorem d_law_564 : decode code 564 = .ok (.aload_n 0, 1) := by decide +kernel
theorem d_law_565 : decode code 565 = .ok (.iload 4, 2) := by decide +kernel
theorem d_law_567 : decode code 567 = .ok (.iconst 1, 1) := by decide +kernel
theorem d_law_568 : decode code 568 = .ok (.iadd, 1) := by decide +kernel
theorem d_law_569 : decode code 569 = .ok (.iaload, 1) := by decide +kernel
theorem d_law_570 : decode code 570 = .ok (.aload_n 0, 1) := by decide +kernel
theorem d_law_571 : decode code 571 = .ok (.iload 4, 2) := by decide +kernel
theorem d_law_573 : decode code 573 = .ok (.iconst 2, 1) := by decide +kernel
theorem d_law_574 : decode code 574 = .ok (.iadd, 1) := by decide +kernel
theorem d_law_575 : decode code 575 = .ok (.iaload, 1) := by decide +kernel
theorem d_law_576 : decode code 576 = .ok (.invokevirtual 88, 3) := by decide +kernel
theorem d_law_579 : decode code 579 = .ok (.istore 6, 2) := by decide +kernel
theorem d_law_581 : decode code 581 = .ok (.aload_n 2, 1) := by decide +kernel
theorem d_law_582 : decode code 582 = .ok (.invokevirtual 62, 3) := by decide +kernel
theorem d_law_585 : decode code 585 = .ok (.iload 5, 2) := by decide +kernel
theorem d_law_587 : decode code 587 = .ok (.if_icmp .eq 5, 3) := by decide +kernel
theorem d_law_590 : decode code 590 = .ok (.iconst 0, 1) := by decide +kernel
theorem d_law_591 : decode code 591 = .ok (.ireturn, 1) := by decide +kernel
theorem d_law_592 : decode code 592 = .ok (.iload 5, 2) := by decide +kernel
theorem d_law_594 : decode code 594 = .ok (.ifCond .ne 15, 3) := by decide +kernel
theorem d_law_597 : decode code 597 = .ok (.aload_n 3, 1) := by decide +kernel
theorem d_law_598 : decode code 598 = .ok (.iconst 0, 1) := by decide +kernel
theorem d_law_599 : decode code 599 = .ok (.laload, 1) := by decide +kernel
theorem d_law_600 : decode code 600 = .ok (.iload 6, 2) := by decide +kernel
theorem d_law_602 : decode code 602 = .ok (.i2l, 1) := by decide +kernel
theorem d_law_603 : decode code 603 = .ok (.lcmp, 1) := by decide +kernel
theorem d_law_604 : decode code 604 = .ok (.ifCond .eq 5, 3) := by decide +kernel
theorem d_law_607 : decode code 607 = .ok (.iconst 0, 1) := by decide +kernel
theorem d_law_608 : decode code 608 = .ok (.ireturn, 1) := by decide +kernel
theorem d_law_609 : decode code 609 = .ok (.goto 177, 3) := by decide +kernel
theorem d_law_612 : decode code 612 = .ok (.aload_n 1, 1) := by decide +kernel
theorem d_law_613 : decode code 613 = .ok (.aload_n 0, 1) := by decide +kernel
theorem d_law_614 : decode code 614 = .ok (.iload 4, 2) := by decide +kernel
theorem d_law_616 : decode code 616 = .ok (.iconst 1, 1) := by decide +kernel
theorem d_law_617 : decode code 617 = .ok (.iadd, 1) := by decide +kernel
theorem d_law_618 : decode code 618 = .ok (.iaload, 1) := by decide +kernel
theorem d_law_619 : decode code 619 = .ok (.aload_n 0, 1) := by decide +kernel
theorem d_law_620 : decode code 620 = .ok (.iload 4, 2) := by decide +kernel
theorem d_law_622 : decode code 622 = .ok (.iconst 2, 1) := by decide +kernel
theorem d_law_623 : decode code 623 = .ok (.iadd, 1) := by decide +kernel
theorem d_law_624 : decode code 624 = .ok (.iaload, 1) := by decide +kernel
theorem d_law_625 : decode code 625 = .ok (.aload_n 0, 1) := by decide +kernel
theorem d_law_626 : decode code 626 = .ok (.iload 4, 2) := by decide +kernel
theorem d_law_628 : decode code 628 = .ok (.iconst 3, 1) := by decide +kernel
theorem d_law_629 : decode code 629 = .ok (.iadd, 1) := by decide +kernel
theorem d_law_630 : decode code 630 = .ok (.iaload, 1) := by decide +kernel
theorem d_law_631 : decode code 631 = .ok (.aload_n 3, 1) := by decide +kernel
theorem d_law_632 : decode code 632 = .ok (.invokestatic 89, 3) := by decide +kernel
theorem d_law_635 : decode code 635 = .ok (.istore 5, 2) := by decide +kernel
theorem d_law_637 : decode code 637 = .ok (.aload_n 2, 1) := by decide +kernel
theorem d_law_638 : decode code 638 = .ok (.aload_n 0, 1) := by decide +kernel
theorem d_law_639 : decode code 639 = .ok (.iload 4, 2) := by decide +kernel
theorem d_law_641 : decode code 641 = .ok (.iconst 1, 1) := by decide +kernel
theorem d_law_642 : decode code 642 = .ok (.iadd, 1) := by decide +kernel
theorem d_law_643 : decode code 643 = .ok (.iaload, 1) := by decide +kernel
theorem d_law_644 : decode code 644 = .ok (.aload_n 0, 1) := by decide +kernel
theorem d_law_645 : decode code 645 = .ok (.iload 4, 2) := by decide +kernel
theorem d_law_647 : decode code 647 = .ok (.iconst 2, 1) := by decide +kernel
theorem d_law_648 : decode code 648 = .ok (.iadd, 1) := by decide +kernel
theorem d_law_649 : decode code 649 = .ok (.iaload, 1) := by decide +kernel
theorem d_law_650 : decode code 650 = .ok (.aload_n 0, 1) := by decide +kernel
theorem d_law_651 : decode code 651 = .ok (.iload 4, 2) := by decide +kernel
theorem d_law_653 : decode code 653 = .ok (.iconst 3, 1) := by decide +kernel
theorem d_law_654 : decode code 654 = .ok (.iadd, 1) := by decide +kernel
theorem d_law_655 : decode code 655 = .ok (.iaload, 1) := by decide +kernel
theorem d_law_656 : decode code 656 = .ok (.invokevirtual 92, 3) := by decide +kernel
theorem d_law_659 : decode code 659 = .ok (.istore 6, 2) := by decide +kernel
theorem d_law_661 : decode code 661 = .ok (.aload_n 2, 1) := by decide +kernel
theorem d_law_662 : decode code 662 = .ok (.invokevirtual 62, 3) := by decide +kernel
theorem d_law_665 : decode code 665 = .ok (.iload 5, 2) := by decide +kernel
theorem d_law_667 : decode code 667 = .ok (.if_icmp .eq 5, 3) := by decide +kernel
theorem d_law_670 : decode code 670 = .ok (.iconst 0, 1) := by decide +kernel
theorem d_law_671 : decode code 671 = .ok (.ireturn, 1) := by decide +kernel
theorem d_law_672 : decode code 672 = .ok (.iload 5, 2) := by decide +kernel
theorem d_law_674 : decode code 674 = .ok (.ifCond .ne 15, 3) := by decide +kernel
theorem d_law_677 : decode code 677 = .ok (.aload_n 3, 1) := by decide +kernel
theorem d_law_678 : decode code 678 = .ok (.iconst 0, 1) := by decide +kernel
theorem d_law_679 : decode code 679 = .ok (.laload, 1) := by decide +kernel
theorem d_law_680 : decode code 680 = .ok (.iload 6, 2) := by decide +kernel
theorem d_law_682 : decode code 682 = .ok (.i2l, 1) := by decide +kernel
theorem d_law_683 : decode code 683 = .ok (.lcmp, 1) := by decide +kernel
theorem d_law_684 : decode code 684 = .ok (.ifCond .eq 5, 3) := by decide +kernel
theorem d_law_687 : decode code 687 = .ok (.iconst 0, 1) := by decide +kernel
theorem d_law_688 : decode code 688 = .ok (.ireturn, 1) := by decide +kernel
theorem d_law_689 : decode code 689 = .ok (.goto 97, 3) := by decide +kernel
theorem d_law_692 : decode code 692 = .ok (.aload_n 1, 1) := by decide +kernel
theorem d_law_693 : decode code 693 = .ok (.invokevirtual 93, 3) := by decide +kernel
theorem d_law_696 : decode code 696 = .ok (.aload_n 2, 1) := by decide +kernel
theorem d_law_697 : decode code 697 = .ok (.invokevirtual 96, 3) := by decide +kernel
theorem d_law_700 : decode code 700 = .ok (.if_icmp .eq 86, 3) := by decide +kernel
theorem d_law_703 : decode code 703 = .ok (.iconst 0, 1) := by decide +kernel
theorem d_law_704 : decode code 704 = .ok (.ireturn, 1) := by decide +kernel
theorem d_law_705 : decode code 705 = .ok (.aload_n 1, 1) := by decide +kernel
theorem d_law_706 : decode code 706 = .ok (.invokevirtual 97, 3) := by decide +kernel
theorem d_law_709 : decode code 709 = .ok (.aload_n 2, 1) := by decide +kernel
theorem d_law_710 : decode code 710 = .ok (.invokevirtual 100, 3) := by decide +kernel
theorem d_law_713 : decode code 713 = .ok (.if_icmp .eq 73, 3) := by decide +kernel
theorem d_law_716 : decode code 716 = .ok (.iconst 0, 1) := by decide +kernel
theorem d_law_717 : decode code 717 = .ok (.ireturn, 1) := by decide +kernel
theorem d_law_718 : decode code 718 = .ok (.aload_n 1, 1) := by decide +kernel
theorem d_law_719 : decode code 719 = .ok (.aload_n 0, 1) := by decide +kernel
theorem d_law_720 : decode code 720 = .ok (.iload 4, 2) := by decide +kernel
theorem d_law_722 : decode code 722 = .ok (.iconst 1, 1) := by decide +kernel
theorem d_law_723 : decode code 723 = .ok (.iadd, 1) := by decide +kernel
theorem d_law_724 : decode code 724 = .ok (.iaload, 1) := by decide +kernel
theorem d_law_725 : decode code 725 = .ok (.aload_n 0, 1) := by decide +kernel
theorem d_law_726 : decode code 726 = .ok (.iload 4, 2) := by decide +kernel
theorem d_law_728 : decode code 728 = .ok (.iconst 2, 1) := by decide +kernel
theorem d_law_729 : decode code 729 = .ok (.iadd, 1) := by decide +kernel
theorem d_law_730 : decode code 730 = .ok (.iaload, 1) := by decide +kernel
theorem d_law_731 : decode code 731 = .ok (.aload_n 3, 1) := by decide +kernel
theorem d_law_732 : decode code 732 = .ok (.invokestatic 101, 3) := by decide +kernel
theorem d_law_735 : decode code 735 = .ok (.istore 5, 2) := by decide +kernel
theorem d_law_737 : decode code 737 = .ok (.aload_n 2, 1) := by decide +kernel
theorem d_law_738 : decode code 738 = .ok (.aload_n 0, 1) := by decide +kernel
theorem d_law_739 : decode code 739 = .ok (.iload 4, 2) := by decide +kernel
theorem d_law_741 : decode code 741 = .ok (.iconst 1, 1) := by decide +kernel
theorem d_law_742 : decode code 742 = .ok (.iadd, 1) := by decide +kernel
theorem d_law_743 : decode code 743 = .ok (.iaload, 1) := by decide +kernel
theorem d_law_744 : decode code 744 = .ok (.aload_n 0, 1) := by decide +kernel
theorem d_law_745 : decode code 745 = .ok (.iload 4, 2) := by decide +kernel
theorem d_law_747 : decode code 747 = .ok (.iconst 2, 1) := by decide +kernel
theorem d_law_748 : decode code 748 = .ok (.iadd, 1) := by decide +kernel
theorem d_law_749 : decode code 749 = .ok (.iaload, 1) := by decide +kernel
theorem d_law_750 : decode code 750 = .ok (.invokevirtual 103, 3) := by decide +kernel
theorem d_law_753 : decode code 753 = .ok (.istore 6, 2) := by decide +kernel
theorem d_law_755 : decode code 755 = .ok (.aload_n 2, 1) := by decide +kernel
theorem d_law_756 : decode code 756 = .ok (.invokevirtual 62, 3) := by decide +kernel
theorem d_law_759 : decode code 759 = .ok (.iload 5, 2) := by decide +kernel
theorem d_law_761 : decode code 761 = .ok (.if_icmp .eq 5, 3) := by decide +kernel
theorem d_law_764 : decode code 764 = .ok (.iconst 0, 1) := by decide +kernel
theorem d_law_765 : decode code 765 = .ok (.ireturn, 1) := by decide +kernel
theorem d_law_766 : decode code 766 = .ok (.iload 5, 2) := by decide +kernel
theorem d_law_768 : decode code 768 = .ok (.ifCond .ne 15, 3) := by decide +kernel
theorem d_law_771 : decode code 771 = .ok (.aload_n 3, 1) := by decide +kernel
theorem d_law_772 : decode code 772 = .ok (.iconst 0, 1) := by decide +kernel
theorem d_law_773 : decode code 773 = .ok (.laload, 1) := by decide +kernel
theorem d_law_774 : decode code 774 = .ok (.iload 6, 2) := by decide +kernel
theorem d_law_776 : decode code 776 = .ok (.i2l, 1) := by decide +kernel
theorem d_law_777 : decode code 777 = .ok (.lcmp, 1) := by decide +kernel
theorem d_law_778 : decode code 778 = .ok (.ifCond .eq 5, 3) := by decide +kernel
theorem d_law_781 : decode code 781 = .ok (.iconst 0, 1) := by decide +kernel
theorem d_law_782 : decode code 782 = .ok (.ireturn, 1) := by decide +kernel
theorem d_law_783 : decode code 783 = .ok (.goto 3, 3) := by decide +kernel
theorem d_law_786 : decode code 786 = .ok (.iinc 4 5, 3) := by decide +kernel
theorem d_law_789 : decode code 789 = .ok (.goto (-766), 3) := by decide +kernel
theorem d_law_792 : decode code 792 = .ok (.iconst 1, 1) := by decide +kernel
theorem d_law_793 : decode code 793 = .ok (.ireturn, 1) := by decide +kernel
end
section
/-! my own layer over the kit's rows: the world as a partial map from addresses to things (pw_H); its rows give the map behind each instruction -/
abbrev pw_H : Type := Nat → Option va_E
def pu (h : pw_H) (a : Nat) (e : va_E) : pw_H := fun q => if q = a then some e else h q
theorem pu_s {h : pw_H} {a : Nat} {e : va_E} : pu h a e a = some e := if_pos rfl
theorem pu_n {h : pw_H} {a b : Nat} {e : va_E} (hne : b ≠ a) : pu h a e b = h b := if_neg hne
theorem pu_k {h : pw_H} {a b : Nat} {e x : va_E} (hb : h b = some x) (hne : b ≠ a) : pu h a e b = some x := (pu_n hne).trans hb
/-- a new thing: all that was there stays -/
theorem pu_f {h : pw_H} {a b : Nat} {e x : va_E} (hf : h a = none) (hb : h b = some x) : pu h a e b = some x := pu_k hb (fun z => by rw [z, hf] at hb; cases hb)
def pw (D : va_G) (cl : List vw_C) (A : Nat → Prop) (h : pw_H) (H : Heap) : Prop :=
  ∃ ws : va_W, va_P D cl ws H ∧ va_D A ws ∧ (∀ (a : Nat) (e : va_E), h a = some e → ∃ k : Nat, ws[k]? = some (a, e)) ∧ ∀ (k : Nat) (q : Nat × va_E), ws[k]? = some q → h q.1 = some q.2
theorem pw.nil {D : va_G} {cl : List vw_C} {A : Nat → Prop} {H : Heap} : pw D cl A (fun _ => none) H :=
  ⟨[], (fun k q hk => by simp at hk), ⟨(fun i j x y hi => by simp at hi), (fun k q hk => by simp at hk)⟩, (fun a e z => by simp at z), (fun k q hk => by simp at hk)⟩
theorem pw.at {D : va_G} {cl : List vw_C} {A : Nat → Prop} {h : pw_H} {H : Heap} (hP : pw D cl A h H) {a : Nat} {e : va_E} (f : h a = some e) : va_at D cl (a, e) H := by
  obtain ⟨ws, P, hD, hl, hr⟩ := hP
  obtain ⟨k, hk⟩ := hl a e f
  exact P k _ hk
theorem pw.lt {D : va_G} {cl : List vw_C} {A : Nat → Prop} {h : pw_H} {H : Heap} (hP : pw D cl A h H) {a : Nat} {e : va_E} (f : h a = some e) : a < H.size := (hP.at f).lt
theorem pw.inA {D : va_G} {cl : List vw_C} {A : Nat → Prop} {h : pw_H} {H : Heap} (hP : pw D cl A h H) {a : Nat} {e : va_E} (f : h a = some e) : A a := by
  obtain ⟨ws, P, hD, hl, hr⟩ := hP
  obtain ⟨k, hk⟩ := hl a e f
  exact hD.2 k _ hk
/-- another part of the addresses that holds the world -/
theorem pw.into {D : va_G} {cl : List vw_C} {A B : Nat → Prop} {h : pw_H} {H : Heap} (hP : pw D cl A h H) (hB : ∀ (a : Nat) (e : va_E), h a = some e → B a) : pw D cl B h H := by
  obtain ⟨ws, P, hD, hl, hr⟩ := hP
  exact ⟨ws, P, hD.weaken (fun k q hk _ => hB q.1 q.2 (hr k q hk)), hl, hr⟩
theorem pw.kept {D : va_G} {cl : List vw_C} {A : Nat → Prop} {h : pw_H} {H H1 : Heap} (hP : pw D cl A h H) (hk : ∀ (a : Nat) (e : va_E), h a = some e → H1[a]? = H[a]?) : pw D cl A h H1 := by
  obtain ⟨ws, P, hD, hl, hr⟩ := hP
  exact ⟨ws, P.kept (fun k q hq => hk q.1 q.2 (hr k q hq)), hD, hl, hr⟩
theorem pw_set {A : Nat → Prop} {h : pw_H} {ws : va_W} {a k : Nat} {e0 e : va_E} (hD : va_D A ws) (hl : ∀ (b : Nat) (x : va_E), h b = some x → ∃ j : Nat, ws[j]? = some (b, x)) (hr : ∀ (j : Nat) (q : Nat × va_E), ws[j]? = some q → h q.1 = some q.2) (hk : ws[k]? = some (a, e0)) :
    (∀ (b : Nat) (x : va_E), pu h a e b = some x → ∃ j : Nat, (ws.set k (a, e))[j]? = some (b, x)) ∧ ∀ (j : Nat) (q : Nat × va_E), (ws.set k (a, e))[j]? = some q → pu h a e q.1 = some q.2 := by
  have hlt := (List.getElem?_eq_some_iff.mp hk).1
  refine ⟨fun b x hb => ?_, fun j q hq => ?_⟩
  · by_cases hba : b = a
    · subst hba
      rw [pu_s] at hb
      cases hb
      exact ⟨k, List.getElem?_set_self hlt⟩
    · rw [pu_n hba] at hb
      obtain ⟨j, hj⟩ := hl b x hb
      have hjk : j ≠ k := fun z => by
        subst z
        rw [hk] at hj
        cases hj
        exact hba rfl
      exact ⟨j, by rw [List.getElem?_set_ne (Ne.symm hjk)]; exact hj⟩
  · by_cases hjk : j = k
    · subst hjk
      rw [List.getElem?_set_self hlt] at hq
      cases hq
      exact pu_s
    · rw [List.getElem?_set_ne (Ne.symm hjk)] at hq
      exact pu_k (hr j q hq) (fun z => hjk (hD.1 j k q (a, e0) hq hk z))
theorem pw_push {A : Nat → Prop} {h : pw_H} {ws : va_W} {a : Nat} {e : va_E} (hD : va_D A (ws ++ [(a, e)])) (hl : ∀ (b : Nat) (x : va_E), h b = some x → ∃ j : Nat, ws[j]? = some (b, x)) (hr : ∀ (j : Nat) (q : Nat × va_E), ws[j]? = some q → h q.1 = some q.2) :
    h a = none ∧ (∀ (b : Nat) (x : va_E), pu h a e b = some x → ∃ j : Nat, (ws ++ [(a, e)])[j]? = some (b, x)) ∧ ∀ (j : Nat) (q : Nat × va_E), (ws ++ [(a, e)])[j]? = some q → pu h a e q.1 = some q.2 := by
  have hend : (ws ++ [(a, e)])[ws.length]? = some (a, e) := by simp
  have old : ∀ (j : Nat) (q : Nat × va_E), ws[j]? = some q → (ws ++ [(a, e)])[j]? = some q := fun j q hj => by
    rw [List.getElem?_append_left (List.getElem?_eq_some_iff.mp hj).1]; exact hj
  have hf : h a = none := by
    cases hh : h a with
    | none => rfl
    | some x =>
      obtain ⟨k, hk⟩ := hl a x hh
      have hkl := (List.getElem?_eq_some_iff.mp hk).1
      have := hD.1 k ws.length (a, x) (a, e) (old k _ hk) hend rfl
      omega
  refine ⟨hf, fun b x hb => ?_, fun j q hq => ?_⟩
  · by_cases hba : b = a
    · subst hba
      rw [pu_s] at hb
      cases hb
      exact ⟨ws.length, hend⟩
    · rw [pu_n hba] at hb
      obtain ⟨j, hj⟩ := hl b x hb
      exact ⟨j, old j _ hj⟩
  · by_cases hjl : j < ws.length
    · rw [List.getElem?_append_left hjl] at hq
      exact pu_f hf (hr j q hq)
    · have hj2 : j = ws.length := by
        have := (List.getElem?_eq_some_iff.mp hq).1
        simp at this
        omega
      subst hj2
      rw [hend] at hq
      cases hq
      exact pu_s
/-- an array's kind is known by its name -/
theorem pw_ra {s : State} {ty : FieldType} {c1 c2 : ClassId} (h1 : va_RA s c1 ty) (h2 : va_RA s c2 ty) : c1 = c2 := by
  cases ty with
  | object C =>
    obtain ⟨_, _, _, _, _, h1⟩ := h1
    obtain ⟨_, _, _, _, _, h2⟩ := h2
    exact Option.some.inj (h1.symm.trans h2)
  | _ => exact Option.some.inj (Eq.trans (Eq.symm h1) h2)
section PWR
variable {p : Program} {l : Launch} {e : Env} {R : Room} {s : State} {m : MethodId} {args : Array Value} {below : List Frame} {meth : Method} {c : Code} {H : Heap} {locs : List Loc} {cells slots : Nat} {Q : State → Prop}
variable {cc : ByteArray} {pc : Nat} {ls : Array Slot} {rest : List Value} {D : va_G} {cl : List vw_C} {A : Nat → Prop} {a : Nat} {tys : List (ClassId × FieldType)} {h : pw_H} {nL : Nat} {own : String} {Ts : List Cond}
theorem pw_get (F : CallFix p m c cc nL s args Ts own) {ref C : String} {T : u_T} {N ci index : Nat} (hin : ∀ w ∈ u_ws C T N, w ∈ Ts) (hK : va_K D cl tys s) (hP : pw D cl A h H) {fs : List Value} (f : h a = some (.inr (ci, fs))) (hc : cl[ci]? = some (C, T, N)) (k : Nat) (hk : k < N) (hlink : Cond.fieldLink own index ref (T k).2.1 (T k).2.2.1 ∈ Ts) (hsame : ∀ x, s.fieldFound? (T k).1 (T k).2.1 (T k).2.2.1 = some x → s.fieldFound? ref (T k).2.1 (T k).2.2.1 = some x) {v : Value} (hv : fs[k]? = some v) (hdg : decode cc pc = .ok (.getfield index, 3))
    (kk : W p l e R s m args below meth c H locs cells slots Q (F0 m (pc + 3) ls (v :: rest))) : W p l e R s m args below meth c H locs cells slots Q (F0 m pc ls (.ref a :: rest)) := by
  obtain ⟨ws, P, hD, hl, hr⟩ := hP
  obtain ⟨q0, hq⟩ := hl _ _ f
  exact va_get F.1 F.2.1 F.2.2.2.2 hin F.2.2.2.1 hK P q0 hq hc k hk (F.2.2.2.2 _ hlink) hsame hv hdg kk
theorem pw_put (F : CallFix p m c cc nL s args Ts own) {ref C : String} {T : u_T} {N ci index : Nat} (hin : ∀ w ∈ u_ws C T N, w ∈ Ts) (ty0 : Nat → FieldType) (hty : ∀ k, k < N → parseFieldDescriptor (T k).2.2.1 = some (ty0 k)) (hnm : ∀ a, a < N → ∀ b, b < N → a ≠ b → (T a).2.1 ≠ (T b).2.1) (hK : va_K D cl tys s) (hP : pw D cl A h H) (hS : va_S A s.heap H locs) {fs : List Value} (f : h a = some (.inr (ci, fs))) (hc : cl[ci]? = some (C, T, N)) (k : Nat) (hk : k < N) (hlink : Cond.fieldLink own index ref (T k).2.1 (T k).2.2.1 ∈ Ts) (hsame : ∀ x, s.fieldFound? (T k).1 (T k).2.1 (T k).2.2.1 = some x → s.fieldFound? ref (T k).2.1 (T k).2.2.1 = some x) (hfin : (T k).2.2.2 = false) {v : Value} (hn : narrow (ty0 k) v = v) (hfit : fits (ty0 k) v = true) (hl : k < fs.length) (hdg : decode cc pc = .ok (.putfield index, 3))
    (kk : ∀ (H1 : Heap) (locs1 : List Loc), pw D cl A (pu h a (.inr (ci, fs.set k v))) H1 → va_S A s.heap H1 locs1 → W p l e R s m args below meth c H1 locs1 cells slots Q (F0 m (pc + 3) ls rest)) : W p l e R s m args below meth c H locs cells slots Q (F0 m pc ls (v :: .ref a :: rest)) := by
  obtain ⟨ws, P, hD, hl9, hr⟩ := hP
  obtain ⟨q0, hq⟩ := hl9 _ _ f
  exact va_put F.1 F.2.1 F.2.2.2.2 hin ty0 hty hnm F.2.2.2.1 hK P hD hS q0 hq hc k hk (F.2.2.2.2 _ hlink) hsame hfin (hty k hk) hn hfit hl hdg (fun H1 locs1 P1 D1 S1 => kk H1 locs1 ⟨_, P1, D1, (pw_set hD hl9 hr hq).1, (pw_set hD hl9 hr hq).2⟩ S1)
theorem pw_putF (F : CallFix p m c cc nL s args Ts own) {ref C : String} {T : u_T} {N ci index : Nat} (hin : ∀ w ∈ u_ws C T N, w ∈ Ts) (ty0 : Nat → FieldType) (hty : ∀ k, k < N → parseFieldDescriptor (T k).2.2.1 = some (ty0 k)) (hnm : ∀ a, a < N → ∀ b, b < N → a ≠ b → (T a).2.1 ≠ (T b).2.1) (hK : va_K D cl tys s) (hP : pw D cl A h H) (hS : va_S A s.heap H locs) {fs : List Value} (f : h a = some (.inr (ci, fs))) (hc : cl[ci]? = some (C, T, N)) (k : Nat) (hk : k < N) (hlink : Cond.fieldLink own index ref (T k).2.1 (T k).2.2.1 ∈ Ts) (hsame : ∀ x, s.fieldFound? (T k).1 (T k).2.1 (T k).2.2.1 = some x → s.fieldFound? ref (T k).2.1 (T k).2.2.1 = some x) (hfin : (T k).2.2.2 = true) (hin2 : meth.name = "<init>") (hdecl : (T k).1 = own) {v : Value} (hn : narrow (ty0 k) v = v) (hfit : fits (ty0 k) v = true) (hl : k < fs.length) (hdg : decode cc pc = .ok (.putfield index, 3))
    (kk : ∀ (H1 : Heap) (locs1 : List Loc), pw D cl A (pu h a (.inr (ci, fs.set k v))) H1 → va_S A s.heap H1 locs1 → W p l e R s m args below meth c H1 locs1 cells slots Q (F0 m (pc + 3) ls rest)) : W p l e R s m args below meth c H locs cells slots Q (F0 m pc ls (v :: .ref a :: rest)) := by
  obtain ⟨ws, P, hD, hl9, hr⟩ := hP
  obtain ⟨q0, hq⟩ := hl9 _ _ f
  exact va_putF F.1 F.2.1 F.2.2.2.2 hin ty0 hty hnm F.2.2.2.1 hK P hD hS q0 hq hc k hk (F.2.2.2.2 _ hlink) hsame hfin hin2 hdecl (hty k hk) hn hfit hl hdg (fun H1 locs1 P1 D1 S1 => kk H1 locs1 ⟨_, P1, D1, (pw_set hD hl9 hr hq).1, (pw_set hD hl9 hr hq).2⟩ S1)
theorem pw_iald (F : CallFix p m c cc nL s args Ts own) (hK : va_K D cl tys s) (hP : pw D cl A h H) (t0 : Nat) {cA : ClassId} {n : Nat} {f : Nat → Int32} (ha : h a = some (.inl (cA, n, .inl f))) (ht : tys[t0]? = some (cA, .int)) {i : Int32} (hin : vp_in i n) (hdg : decode cc pc = .ok (.iaload, 1))
    (kk : W p l e R s m args below meth c H locs cells slots Q (F0 m (pc + 1) ls (.int (f i.toNatClampNeg) :: rest))) : W p l e R s m args below meth c H locs cells slots Q (F0 m pc ls (.int i :: .ref a :: rest)) := by
  obtain ⟨ws, P, hD, hl, hr⟩ := hP
  obtain ⟨q0, hq⟩ := hl _ _ ha
  exact va_iald F.1 F.2.1 hK P q0 t0 hq ht hin hdg kk
theorem pw_zald (F : CallFix p m c cc nL s args Ts own) (hK : va_K D cl tys s) (hP : pw D cl A h H) (t0 : Nat) {cA : ClassId} {n : Nat} {f : Nat → Int32} (ha : h a = some (.inl (cA, n, .inl f))) (ht : tys[t0]? = some (cA, .boolean)) {i : Int32} (hin : vp_in i n) (hdg : decode cc pc = .ok (.baload, 1))
    (kk : W p l e R s m args below meth c H locs cells slots Q (F0 m (pc + 1) ls (.int (f i.toNatClampNeg) :: rest))) : W p l e R s m args below meth c H locs cells slots Q (F0 m pc ls (.int i :: .ref a :: rest)) := by
  obtain ⟨ws, P, hD, hl, hr⟩ := hP
  obtain ⟨q0, hq⟩ := hl _ _ ha
  exact va_zald F.1 F.2.1 hK P q0 t0 hq ht hin hdg kk
theorem pw_lald (F : CallFix p m c cc nL s args Ts own) (hK : va_K D cl tys s) (hP : pw D cl A h H) (t0 : Nat) {cA : ClassId} {n : Nat} {f : Nat → Int64} (ha : h a = some (.inl (cA, n, .inr (.inl f)))) (ht : tys[t0]? = some (cA, .long)) {i : Int32} (hin : vp_in i n) (hdg : decode cc pc = .ok (.laload, 1))
    (kk : W p l e R s m args below meth c H locs cells slots Q (F0 m (pc + 1) ls (.long (f i.toNatClampNeg) :: rest))) : W p l e R s m args below meth c H locs cells slots Q (F0 m pc ls (.int i :: .ref a :: rest)) := by
  obtain ⟨ws, P, hD, hl, hr⟩ := hP
  obtain ⟨q0, hq⟩ := hl _ _ ha
  exact va_lald F.1 F.2.1 hK P q0 t0 hq ht hin hdg kk
theorem pw_aldq (F : CallFix p m c cc nL s args Ts own) (hK : va_K D cl tys s) (hP : pw D cl A h H) (t0 : Nat) {cA : ClassId} {C : String} {n : Nat} {f : Nat → Option Nat} (ha : h a = some (.inl (cA, n, .inr (.inr (.inr (.inr f)))))) (ht : tys[t0]? = some (cA, .object C)) {i : Int32} (hin : vp_in i n) (hdg : decode cc pc = .ok (.aaload, 1))
    (kk : W p l e R s m args below meth c H locs cells slots Q (F0 m (pc + 1) ls (va_rf (f i.toNatClampNeg) :: rest))) : W p l e R s m args below meth c H locs cells slots Q (F0 m pc ls (.int i :: .ref a :: rest)) := by
  obtain ⟨ws, P, hD, hl, hr⟩ := hP
  obtain ⟨q0, hq⟩ := hl _ _ ha
  exact va_aldq F.1 F.2.1 hK P q0 t0 hq ht hin hdg kk
theorem pw_alen (F : CallFix p m c cc nL s args Ts own) (hK : va_K D cl tys s) (hP : pw D cl A h H) (t0 : Nat) {cA : ClassId} {x : vp_A} (ha : h a = some (.inl (cA, x))) {ty : FieldType} (ht : tys[t0]? = some (cA, ty)) {v : Int32} (hv : Int32.ofNat x.1 = v) (hdg : decode cc pc = .ok (.arraylength, 1))
    (kk : W p l e R s m args below meth c H locs cells slots Q (F0 m (pc + 1) ls (.int v :: rest))) : W p l e R s m args below meth c H locs cells slots Q (F0 m pc ls (.ref a :: rest)) := by
  obtain ⟨ws, P, hD, hl, hr⟩ := hP
  obtain ⟨q0, hq⟩ := hl _ _ ha
  exact va_alen F.1 F.2.1 hK P q0 t0 hq ht hv hdg kk
theorem pw_iast (F : CallFix p m c cc nL s args Ts own) (hK : va_K D cl tys s) (hP : pw D cl A h H) (hS : va_S A s.heap H locs) (t0 : Nat) {cA : ClassId} {n : Nat} {f : Nat → Int32} (ha : h a = some (.inl (cA, n, .inl f))) (ht : tys[t0]? = some (cA, .int)) {i x : Int32} (hin : vp_in i n) (hdg : decode cc pc = .ok (.iastore, 1))
    (kk : ∀ (H1 : Heap) (locs1 : List Loc), pw D cl A (pu h a (.inl (cA, n, .inl (upd f i.toNatClampNeg x)))) H1 → va_S A s.heap H1 locs1 → W p l e R s m args below meth c H1 locs1 cells slots Q (F0 m (pc + 1) ls rest)) : W p l e R s m args below meth c H locs cells slots Q (F0 m pc ls (.int x :: .int i :: .ref a :: rest)) := by
  obtain ⟨ws, P, hD, hl, hr⟩ := hP
  obtain ⟨q0, hq⟩ := hl _ _ ha
  exact va_iast F.1 F.2.1 hK P hD hS q0 t0 hq ht hin hdg (fun H1 locs1 P1 D1 S1 => kk H1 locs1 ⟨_, P1, D1, (pw_set hD hl hr hq).1, (pw_set hD hl hr hq).2⟩ S1)
theorem pw_zast (F : CallFix p m c cc nL s args Ts own) (hK : va_K D cl tys s) (hP : pw D cl A h H) (hS : va_S A s.heap H locs) (t0 : Nat) {cA : ClassId} {n : Nat} {f : Nat → Int32} (ha : h a = some (.inl (cA, n, .inl f))) (ht : tys[t0]? = some (cA, .boolean)) {i x : Int32} (hin : vp_in i n) (hdg : decode cc pc = .ok (.bastore, 1))
    (kk : ∀ (H1 : Heap) (locs1 : List Loc), pw D cl A (pu h a (.inl (cA, n, .inl (upd f i.toNatClampNeg (vp_nar .boolean x))))) H1 → va_S A s.heap H1 locs1 → W p l e R s m args below meth c H1 locs1 cells slots Q (F0 m (pc + 1) ls rest)) : W p l e R s m args below meth c H locs cells slots Q (F0 m pc ls (.int x :: .int i :: .ref a :: rest)) := by
  obtain ⟨ws, P, hD, hl, hr⟩ := hP
  obtain ⟨q0, hq⟩ := hl _ _ ha
  exact va_zast F.1 F.2.1 hK P hD hS q0 t0 hq ht hin hdg (fun H1 locs1 P1 D1 S1 => kk H1 locs1 ⟨_, P1, D1, (pw_set hD hl hr hq).1, (pw_set hD hl hr hq).2⟩ S1)
theorem pw_last (F : CallFix p m c cc nL s args Ts own) (hK : va_K D cl tys s) (hP : pw D cl A h H) (hS : va_S A s.heap H locs) (t0 : Nat) {cA : ClassId} {n : Nat} {f : Nat → Int64} (ha : h a = some (.inl (cA, n, .inr (.inl f)))) (ht : tys[t0]? = some (cA, .long)) {i : Int32} {x : Int64} (hin : vp_in i n) (hdg : decode cc pc = .ok (.lastore, 1))
    (kk : ∀ (H1 : Heap) (locs1 : List Loc), pw D cl A (pu h a (.inl (cA, n, .inr (.inl (vp_updL f i.toNatClampNeg x))))) H1 → va_S A s.heap H1 locs1 → W p l e R s m args below meth c H1 locs1 cells slots Q (F0 m (pc + 1) ls rest)) : W p l e R s m args below meth c H locs cells slots Q (F0 m pc ls (.long x :: .int i :: .ref a :: rest)) := by
  obtain ⟨ws, P, hD, hl, hr⟩ := hP
  obtain ⟨q0, hq⟩ := hl _ _ ha
  exact va_last F.1 F.2.1 hK P hD hS q0 t0 hq ht hin hdg (fun H1 locs1 P1 D1 S1 => kk H1 locs1 ⟨_, P1, D1, (pw_set hD hl hr hq).1, (pw_set hD hl hr hq).2⟩ S1)
theorem pw_astq (F : CallFix p m c cc nL s args Ts own) (hK : va_K D cl tys s) (hP : pw D cl A h H) (hS : va_S A s.heap H locs) (t0 ci : Nat) {cA : ClassId} {r : vw_C} {n v : Nat} {vs : List Value} {f : Nat → Option Nat} (ha : h a = some (.inl (cA, n, .inr (.inr (.inr (.inr f)))))) (ht : tys[t0]? = some (cA, .object r.1)) (hv : h v = some (.inr (ci, vs))) (hc : cl[ci]? = some r) {i : Int32} (hin : vp_in i n) (hdg : decode cc pc = .ok (.aastore, 1))
    (kk : ∀ (H1 : Heap) (locs1 : List Loc), pw D cl A (pu h a (.inl (cA, n, .inr (.inr (.inr (.inr (va_up f i.toNatClampNeg (some v)))))))) H1 → va_S A s.heap H1 locs1 → W p l e R s m args below meth c H1 locs1 cells slots Q (F0 m (pc + 1) ls rest)) : W p l e R s m args below meth c H locs cells slots Q (F0 m pc ls (.ref v :: .int i :: .ref a :: rest)) := by
  obtain ⟨ws, P, hD, hl, hr⟩ := hP
  obtain ⟨q0, hq⟩ := hl _ _ ha
  obtain ⟨qk, hqk⟩ := hl _ _ hv
  exact va_astq F.1 F.2.1 hK P hD hS q0 t0 qk ci hq ht hqk hc hin hdg (fun H1 locs1 P1 D1 S1 => kk H1 locs1 ⟨_, P1, D1, (pw_set hD hl hr hq).1, (pw_set hD hl hr hq).2⟩ S1)
theorem pw_astqO (F : CallFix p m c cc nL s args Ts own) (hK : va_K D cl tys s) (hP : pw D cl A h H) (hS : va_S A s.heap H locs) (t0 ci : Nat) {E : String} {cA : ClassId} {r : vw_C} {n v : Nat} {vs : List Value} {f : Nat → Option Nat} (ha : h a = some (.inl (cA, n, .inr (.inr (.inr (.inr f)))))) (ht : tys[t0]? = some (cA, .object E)) (hca : va_Nw (.castable r.1 E) s) (hv : h v = some (.inr (ci, vs))) (hc : cl[ci]? = some r) {i : Int32} (hin : vp_in i n) (hdg : decode cc pc = .ok (.aastore, 1))
    (kk : ∀ (H1 : Heap) (locs1 : List Loc), pw D cl A (pu h a (.inl (cA, n, .inr (.inr (.inr (.inr (va_up f i.toNatClampNeg (some v)))))))) H1 → va_S A s.heap H1 locs1 → W p l e R s m args below meth c H1 locs1 cells slots Q (F0 m (pc + 1) ls rest)) : W p l e R s m args below meth c H locs cells slots Q (F0 m pc ls (.ref v :: .int i :: .ref a :: rest)) := by
  obtain ⟨ws, P, hD, hl, hr⟩ := hP
  obtain ⟨q0, hq⟩ := hl _ _ ha
  obtain ⟨qk, hqk⟩ := hl _ _ hv
  exact va_astqO F.1 F.2.1 hK P hD hS q0 t0 qk ci hq ht hca hqk hc hin hdg (fun H1 locs1 P1 D1 S1 => kk H1 locs1 ⟨_, P1, D1, (pw_set hD hl hr hq).1, (pw_set hD hl hr hq).2⟩ S1)
theorem pw_astqN (F : CallFix p m c cc nL s args Ts own) (hK : va_K D cl tys s) (hP : pw D cl A h H) (hS : va_S A s.heap H locs) (t0 : Nat) {C : String} {cA : ClassId} {n : Nat} {f : Nat → Option Nat} (ha : h a = some (.inl (cA, n, .inr (.inr (.inr (.inr f)))))) (ht : tys[t0]? = some (cA, .object C)) {i : Int32} (hin : vp_in i n) (hdg : decode cc pc = .ok (.aastore, 1))
    (kk : ∀ (H1 : Heap) (locs1 : List Loc), pw D cl A (pu h a (.inl (cA, n, .inr (.inr (.inr (.inr (va_up f i.toNatClampNeg none))))))) H1 → va_S A s.heap H1 locs1 → W p l e R s m args below meth c H1 locs1 cells slots Q (F0 m (pc + 1) ls rest)) : W p l e R s m args below meth c H locs cells slots Q (F0 m pc ls (.null :: .int i :: .ref a :: rest)) := by
  obtain ⟨ws, P, hD, hl, hr⟩ := hP
  obtain ⟨q0, hq⟩ := hl _ _ ha
  exact va_astqN F.1 F.2.1 hK P hD hS q0 t0 hq ht hin hdg (fun H1 locs1 P1 D1 S1 => kk H1 locs1 ⟨_, P1, D1, (pw_set hD hl hr hq).1, (pw_set hD hl hr hq).2⟩ S1)
theorem pw_new (F : CallFix p m c cc nL s args Ts own) {C : String} {T : u_T} {N ci index : Nat} (hin : ∀ w ∈ u_ws C T N, w ∈ Ts) (ty : Nat → FieldType) (hty : ∀ k, k < N → parseFieldDescriptor (T k).2.2.1 = some (ty k)) (hcl : Cond.classLink own index C ∈ Ts) (hinst : Cond.instantiable C N ∈ Ts) (hini : Cond.initialized C ∈ Ts)
    (hK : va_K D cl tys s) (hP : pw D cl A h H) (hS : va_S A s.heap H locs) (hA : ∀ q, s.heap.size ≤ q → A q) (hc : cl[ci]? = some (C, T, N)) {fs : List Value} (hfs : ∀ j, j < N → defaultValue (ty j) = vp_V fs j) (hcells : cells + 1 ≤ R.cells) (hslots : slots + N ≤ R.slots) (hdg : decode cc pc = .ok (.new index, 3))
    (kk : ∀ (q : Nat) (H1 : Heap), h q = none → pw D cl A (pu h q (.inr (ci, fs))) H1 → va_S A s.heap H1 locs → W p l e R s m args below meth c H1 locs (cells + 1) (slots + N) Q (F0 m (pc + 3) ls (.ref q :: rest))) : W p l e R s m args below meth c H locs cells slots Q (F0 m pc ls rest) := by
  obtain ⟨ws, P, hD, hl, hr⟩ := hP
  exact va_new F.1 F.2.1 F.2.2.2.2 hin ty hty F.2.2.2.1 (F.2.2.2.2 _ hcl) (F.2.2.2.2 _ hinst) (F.2.2.2.2 _ hini) hK P hD hS hA hc hfs hcells hslots hdg (fun q H1 P1 D1 S1 => kk q H1 (pw_push D1 hl hr).1 ⟨_, P1, D1, (pw_push D1 hl hr).2.1, (pw_push D1 hl hr).2.2⟩ S1)
theorem pw_newa (F : CallFix p m c cc nL s args Ts own) {atype : ArrayType} (harr : Cond.arrayClass (newarray.typeOf atype) ∈ Ts) {ty : FieldType} (hty : newarray.typeOf atype = ty) (hK : va_K D cl tys s) (hP : pw D cl A h H) (hS : va_S A s.heap H locs) (hA : ∀ q, s.heap.size ≤ q → A q) (t0 : Nat) {cA : ClassId} (ht : tys[t0]? = some (cA, ty))
    {n : Int32} {N' : Nat} {a0 : vp_A} (ha : ∀ cA : ClassId, vp_cell cA a0 = arrV cA N' (fun _ => defaultValue ty)) (hn : ¬ n < 0) (hN : n.toNatClampNeg = N') (hbytes : N' * componentBytes ty ≤ 536870912) (hcells : cells + 1 ≤ R.cells) (hslots : slots + N' ≤ R.slots) (hdg : decode cc pc = .ok (.newarray atype, 2))
    (kk : ∀ (q : Nat) (H1 : Heap), h q = none → pw D cl A (pu h q (.inl (cA, a0))) H1 → va_S A s.heap H1 locs → W p l e R s m args below meth c H1 locs (cells + 1) (slots + N') Q (F0 m (pc + 2) ls (.ref q :: rest))) : W p l e R s m args below meth c H locs cells slots Q (F0 m pc ls (.int n :: rest)) := by
  obtain ⟨ws, P, hD, hl, hr⟩ := hP
  refine va_newa F.1 F.2.1 (F.2.2.2.2 _ harr) hty hK P hD hS hA ha hn hN hbytes hcells hslots hdg (fun q cB H1 K1 P1 D1 S1 => ?_)
  have hRA : va_RA s cB ty := (K1.2 tys.length (cB, ty) (by simp)).2
  have hcB : cB = cA := pw_ra hRA (hK.2 t0 _ ht).2
  subst hcB
  exact kk q H1 (pw_push D1 hl hr).1 ⟨_, P1, D1, (pw_push D1 hl hr).2.1, (pw_push D1 hl hr).2.2⟩ S1
theorem pw_newq (F : CallFix p m c cc nL s args Ts own) {C : String} {index : Nat} (hclink : Cond.classLink own index C ∈ Ts) (hover : va_AO C s) (hK : va_K D cl tys s) (hP : pw D cl A h H) (hS : va_S A s.heap H locs) (hA : ∀ q, s.heap.size ≤ q → A q) (t0 : Nat) {cA : ClassId} (ht : tys[t0]? = some (cA, .object C))
    {n : Int32} {N' : Nat} (hn : ¬ n < 0) (hN : n.toNatClampNeg = N') (hbytes : N' * 4 ≤ 536870912) (hcells : cells + 1 ≤ R.cells) (hslots : slots + N' ≤ R.slots) (hdg : decode cc pc = .ok (.anewarray index, 3))
    (kk : ∀ (q : Nat) (H1 : Heap), h q = none → pw D cl A (pu h q (.inl (cA, N', .inr (.inr (.inr (.inr (fun _ => none))))))) H1 → va_S A s.heap H1 locs → W p l e R s m args below meth c H1 locs (cells + 1) (slots + N') Q (F0 m (pc + 3) ls (.ref q :: rest))) : W p l e R s m args below meth c H locs cells slots Q (F0 m pc ls (.int n :: rest)) := by
  obtain ⟨ws, P, hD, hl, hr⟩ := hP
  refine va_newq F.1 F.2.1 F.2.2.2.1 (F.2.2.2.2 _ hclink) hover hK P hD hS hA hn hN hbytes hcells hslots hdg (fun q cB H1 K1 P1 D1 S1 => ?_)
  have hcB : cB = cA := pw_ra (K1.2 tys.length (cB, .object C) (by simp)).2 (hK.2 t0 _ ht).2
  subst hcB
  exact kk q H1 (pw_push D1 hl hr).1 ⟨_, P1, D1, (pw_push D1 hl hr).2.1, (pw_push D1 hl hr).2.2⟩ S1
theorem pw_recv (hK : va_K D cl tys s) (hP : pw D cl A h H) {ci : Nat} {fs : List Value} {q : vw_C} (f : h a = some (.inr (ci, fs))) (hc : cl[ci]? = some q) : ∃ cell : Cell, H[a]? = some cell ∧ cell.vm.isStatics = false ∧ s.vm.findClass q.1 = some cell.cls := by
  obtain ⟨ws, P, hD, hl, hr⟩ := hP
  obtain ⟨q0, hq⟩ := hl _ _ f
  exact va_recv hK P hc hq
end PWR
/-! what stays as it is while the law runs -/
abbrev tyl (cs : Nat → Nat) : List (ClassId × FieldType) := [(cs 0, .int), (cs 1, .boolean), (cs 2, .long), (cs 3, .object "PatchDesk$Body"), (cs 4, .object "PatchDesk$Frame"), (cs 5, .object "java/lang/Object")]
def kStr : List (Nat × String) := [(39, "a signature is 0 .. 9"), (54, "no more functions: there are 8, or a task, or a patch"), (72, "no such function, or not in the draft"), (94, "no such operation, or not with this number"), (99, "the body is closed by a task or a patch, or has 12 operations"), (105, "no such function, named already, or no such signature"), (113, "the draft names no function"), (121, "a signature is another one than the function's"), (124, "a transition goes on, or there are 5 patches"), (129, "no transition and no patch"), (131, "no such function"), (133, "there are 4 tasks"), (147, "no such task, or steps is not 1 .. 100"), (163, "no such task or what"), (182, "no such frame"), (198, "no such level")]
def kNc : List (String × String) := [("java/lang/IllegalArgumentException", "java/lang/IllegalStateException"), ("java/lang/IllegalArgumentException", "java/lang/UnsupportedOperationException"), ("java/lang/IllegalArgumentException", "java/util/NoSuchElementException"), ("java/lang/IllegalStateException", "java/lang/IllegalArgumentException"), ("java/lang/IllegalStateException", "java/lang/UnsupportedOperationException"), ("java/lang/IllegalStateException", "java/util/NoSuchElementException"), ("java/lang/UnsupportedOperationException", "java/lang/IllegalArgumentException"), ("java/lang/UnsupportedOperationException", "java/lang/IllegalStateException"), ("java/lang/UnsupportedOperationException", "java/util/NoSuchElementException"), ("java/util/NoSuchElementException", "java/lang/IllegalArgumentException"), ("java/util/NoSuchElementException", "java/lang/IllegalStateException"), ("java/util/NoSuchElementException", "java/lang/UnsupportedOperationException")]
def kCa : List (String × String) := [("java/lang/IllegalArgumentException", "java/lang/IllegalArgumentException"), ("java/lang/IllegalStateException", "java/lang/IllegalStateException"), ("java/lang/UnsupportedOperationException", "java/lang/UnsupportedOperationException"), ("java/util/NoSuchElementException", "java/util/NoSuchElementException"), ("PatchDesk$Function", "PatchDesk$Function"), ("PatchDesk$Task", "PatchDesk$Task"), ("PatchDesk$Patch", "PatchDesk$Patch"), ("PatchDesk", "java/lang/Object"), ("PatchDesk$Patch", "java/lang/Object"), ("PatchDeskModel", "java/lang/Object"), ("PatchDesk$Function", "java/lang/Object"), ("PatchDesk$Body", "java/lang/Object"), ("PatchDesk$Task", "java/lang/Object"), ("PatchDesk$Frame", "java/lang/Object"), ("java/lang/String", "java/lang/Object")]
def kAO : List String := ["PatchDesk$Body", "PatchDesk$Frame", "java/lang/Object"]
def kon (D : va_G) (cs : Nat → Nat) (A : Nat → Prop) (U : State) (H : Heap) : Prop :=
  va_K D vwCl (tyl cs) U ∧ va_Z R_AL "DEFAULTCAPACITY_EMPTY_ELEMENTDATA" "[Ljava/lang/Object;" (.ref (cs 9)) A U H ∧ va_T (.object "java/lang/Object") (cs 9) 0 (fun _ => .null) A U H ∧
  vx_Zq Bundle.tN "UNASSIGNED_STACK" Bundle.steD A U H ∧ vx_Zq Bundle.tN "SUPPRESSED_SENTINEL" Bundle.listD A U H ∧
  (∀ q ∈ kStr, ∃ a, vk_R R_D q.1 q.2 a U) ∧ (∀ q ∈ kNc, va_Nc q.1 q.2 U) ∧ (∀ q ∈ kCa, va_Nw (.castable q.1 q.2) U) ∧ (∀ q ∈ kAO, va_AO q U)
theorem kon.go {D : va_G} {cs : Nat → Nat} {A : Nat → Prop} {s U : State} {H : Heap} {locs : List Loc} (h : kon D cs A s s.heap) (hS : va_S A s.heap H locs) (hU : U.heap = H) (hW : s.WarmedH U.vm) : kon D cs A U U.heap := by
  obtain ⟨k1, k2, k3, k4, k5, k6, k7, k8, k9⟩ := h
  have hk : ∀ a : Nat, a < s.heap.size → ¬ A a → U.heap[a]? = s.heap[a]? := fun a h1 h2 => by rw [hU]; exact hS.2.1 a h1 h2
  refine ⟨va_K.moved hW.alike k1, (va_Z.moved hW.alike k2).kept hk, (va_T.moved hW.alike k3).kept hk, (vx_Zq.moved hW.alike k4).kept hk, (vx_Zq.moved hW.alike k5).kept hk, fun q hq => ?_, fun q hq => (k7 q hq).moved hW.alike, fun q hq => (k8 q hq).warmC hW, fun q hq => (k9 q hq).moved hW.alike⟩
  obtain ⟨a, ha⟩ := k6 q hq
  exact ⟨a, ha.warm hW⟩
theorem kon.narrow {D : va_G} {cs : Nat → Nat} {A B : Nat → Prop} {U : State} {H : Heap} (h : kon D cs A U H) (hAB : ∀ q, B q → A q) : kon D cs B U H := by
  obtain ⟨k1, k2, k3, k4, k5, k6, k7, k8, k9⟩ := h
  exact ⟨k1, k2.narrow hAB, k3.narrow hAB, k4.narrow hAB, k5.narrow hAB, k6, k7, k8, k9⟩
theorem kon.calling {D : va_G} {cs : Nat → Nat} {A : Nat → Prop} {U : State} {g : JFrame} {mk : MethodId} {a : Array Value} (h : kon D cs A U U.heap) : kon D cs A (U.calling g mk a) (U.calling g mk a).heap := by
  obtain ⟨k1, k2, k3, k4, k5, k6, k7, k8, k9⟩ := h
  have hv : (U.calling g mk a).vm = U.vm := rfl
  have al : U.vm.Alike (U.calling g mk a).vm := Vm.Alike.refl U.vm
  refine ⟨va_K.moved al k1, va_Z.moved al k2, va_T.moved al k3, vx_Zq.moved al k4, vx_Zq.moved al k5, fun q hq => ?_, fun q hq => (k7 q hq).moved al, fun q hq => va_Nw.same rfl hv.symm (k8 q hq), fun q hq => (k9 q hq).moved al⟩
  obtain ⟨a, ha⟩ := k6 q hq
  exact ⟨a, vk_R.same hv ha⟩
/-- a world at a state: the map, the addresses that may be written, the constants -/
def ww (D : va_G) (cs : Nat → Nat) (A : Nat → Prop) (h : pw_H) (U : State) : Prop := pw D vwCl A h U.heap ∧ (∀ q, U.heap.size ≤ q → A q) ∧ kon D cs A U U.heap
/-- a method's contract over maps -/
def pm (l : Launch) (y : MethodName) (cc : ByteArray) (maxL : Nat) (ret : Option FieldType) (rm : Room) (av : List Value) (D : va_G) (cs : Nat → Nat) (A : Nat → Prop) (h : pw_H) (Qc : Array Value → State → Outcome → State → Prop) (mc ms : Nat) : Prop :=
  Met l y (Cond.code y cc maxL ret :: gws) rm (va_Pc av (ww D cs A h)) Qc mc ms A
theorem pm_of {l : Launch} {y : MethodName} {cc : ByteArray} {maxL : Nat} {ret : Option FieldType} {rm : Room} {av : List Value} {D : va_G} {cs : Nat → Nat} {A : Nat → Prop} {h : pw_H} {Qc : Array Value → State → Outcome → State → Prop} {mc ms : Nat} (own : String) (ho : y.cls = own) (hy : plainName y.cls = true) (hn : (lg_sl av).length ≤ maxL)
    (body : ∀ (p : Program) (e : Env) (s : State) (m : MethodId) (below : List Frame) (meth : Method) (c : Code) (ls : Array Slot), CallFix p m c cc maxL s av.toArray gws own → meth.sig.returnType = ret → meth.locks = false → meth.name = y.name → pw D vwCl A h s.heap → (∀ q, s.heap.size ≤ q → A q) → kon D cs A s s.heap → lv_has ls maxL (lv_args 0 av) →
      W p l e rm s m av.toArray below meth c s.heap [] 0 0 (MQ below Qc av.toArray s mc ms A) (F0 m 0 ls [])) : pm l y cc maxL ret rm av D cs A h Qc mc ms := by
  subst ho
  refine Met.ofW (cc := cc) (maxL := maxL) (ret := ret) hy rfl ?_
  intro p e s m args below meth c s₁ B hml hv
  obtain ⟨rfl, hP, hA, hK⟩ := hv
  have hts := atoms_spec (ws := Cond.code y cc maxL ret :: gws) B.pre
  rw [lg_entry_eq]
  exact body p e s m below meth c _ ⟨B.exec, B.bytes, hml, findClass_of_methodNamed B.named, fun w hw => hts w (List.mem_cons_of_mem _ hw)⟩ B.returns B.notSynchronized (name_of_methodNamed B.named B.method).1 hP hA hK (lv_entry av hn)
section PWC
variable {p : Program} {l : Launch} {e : Env} {R : Room} {s : State} {m : MethodId} {args : Array Value} {below : List Frame} {meth : Method} {c : Code} {H : Heap} {locs : List Loc} {cells slots : Nat} {Q : State → Prop}
variable {cc : ByteArray} {pc : Nat} {ls : Array Slot} {rest : List Value} {D : va_G} {cs : Nat → Nat} {A : Nat → Prop} {a : Nat} {h : pw_H} {nL : Nat} {own : String}
variable {mc ms : Nat} {y : MethodName} {bytes : ByteArray} {maxL : Nat} {ret : Option FieldType} {rm : Room} {As st0 : List Value} {b index n : Nat} {Qc : Array Value → State → Outcome → State → Prop} {av : List Value}
theorem ww_blind : FrameBlind (va_Pc av (ww D cs A h)) := fun _ U g mk q => ⟨q.1, q.2.1, q.2.2.1, kon.calling q.2.2.2⟩
theorem ww_at (hP : pw D vwCl A h H) (hA : ∀ q, s.heap.size ≤ q → A q) (hK : kon D cs A s s.heap) (hS : va_S A s.heap H locs) (U : State) (hU : U.heap = H) (hW : s.WarmedH U.vm) : va_Pc av (ww D cs A h) av.toArray U :=
  ⟨rfl, by rw [hU]; exact hP, fun q hq => hA q (Nat.le_trans hS.1 (by rw [← hU]; exact hq)), kon.go hK hS hU hW⟩
theorem pr_V (F : CallFix p m c cc nL s args gws own) (hM : pm l y bytes maxL ret rm (.ref b :: As) D cs A h Qc mc ms) (X : cwdV own index y bytes maxL ret n) (hrc : rm.cells = mc) (hrs : rm.slots = ms) (hR : rm.frames + 1 ≤ R.frames ∧ 8 + (maxL + 11) + rm.locals ≤ R.locals)
    (hP : pw D vwCl A h H) (hA : ∀ q, s.heap.size ≤ q → A q) (hK : kon D cs A s s.heap) (hS : va_S A s.heap H locs) {ci : Nat} {fs : List Value} {q : vw_C} (f : h b = some (.inr (ci, fs))) (hc : vwCl[ci]? = some q) (hq : q.1 = y.cls)
    (hn : As.length = n) (hsize : ls.size = nL) (hstack : st0 = As.reverse ++ .ref b :: rest) (hW : (rest.map fun v => v.category).sum ≤ 8) (hdg : decode cc pc = .ok (.invokevirtual index, 3)) (hf : cells + mc ≤ R.cells ∧ slots + ms ≤ R.slots) :
    va_Run p l e R s m args below meth c H locs cells slots mc ms (F0 m pc ls st0) rest (Qc (Value.ref b :: As).toArray) A := by
  obtain ⟨⟨x1, x2, x3, x4, x5⟩, x6⟩ := X
  refine va_runV (C := y.cls) F hM (cwV n F.2.2.2.2 (fun w hw => ?_) rfl hrc hrs ⟨rfl, x6⟩ hR) ⟨ww_blind, ?_, ww_at hP hA hK hS⟩ rfl hn hsize hstack (lv_room hW) hdg hf
  · unfold wsV at hw
    rcases List.mem_append.mp hw with hw | hw
    · simp only [List.mem_cons, List.not_mem_nil, or_false] at hw
      rcases hw with rfl | rfl | rfl | rfl
      · exact gw_good _ x1
      · exact gw_good _ x2
      · exact gw_good _ x3
      · exact gw_good _ x4
    · exact gw_cons x5 w hw
  · rw [← hq]; exact pw_recv hK.1 hP f hc
theorem pr_S (F : CallFix p m c cc nL s args gws own) (hM : pm l y bytes maxL ret rm As D cs A h Qc mc ms) (X : cwdS own index y bytes maxL ret n) (hrc : rm.cells = mc) (hrs : rm.slots = ms) (hR : rm.frames + 1 ≤ R.frames ∧ 8 + (maxL + 11) + rm.locals ≤ R.locals)
    (hP : pw D vwCl A h H) (hA : ∀ q, s.heap.size ≤ q → A q) (hK : kon D cs A s s.heap) (hS : va_S A s.heap H locs)
    (hn : As.length = n) (hsize : ls.size = nL) (hstack : st0 = As.reverse ++ rest) (hW : (rest.map fun v => v.category).sum ≤ 8) (hdg : decode cc pc = .ok (.invokestatic index, 3)) (hf : cells + mc ≤ R.cells ∧ slots + ms ≤ R.slots) :
    va_Run p l e R s m args below meth c H locs cells slots mc ms (F0 m pc ls st0) rest (Qc As.toArray) A := by
  obtain ⟨⟨x1, x2, x3, x4⟩, x6⟩ := X
  refine va_runS F hM (va_cwS n F.2.2.2.2 (fun w hw => ?_) rfl hrc hrs x6 hR) ⟨ww_blind, ww_at hP hA hK hS⟩ rfl hn hsize hstack (lv_room hW) hdg hf
  unfold va_wsS at hw
  rcases List.mem_append.mp hw with hw | hw
  · simp only [List.mem_cons, List.not_mem_nil, or_false] at hw
    rcases hw with rfl | rfl | rfl
    · exact gw_good _ x1
    · exact gw_good _ x2
    · exact gw_good _ x3
  · exact gw_cons x4 w hw
theorem pr_I (F : CallFix p m c cc nL s args gws own) (hM : pm l y bytes maxL none rm (.ref b :: As) D cs A h Qc mc ms) (X : cwdI own index y bytes maxL n) (hrc : rm.cells = mc) (hrs : rm.slots = ms) (hR : rm.frames + 1 ≤ R.frames ∧ 8 + (maxL + 11) + rm.locals ≤ R.locals)
    (hP : pw D vwCl A h H) (hA : ∀ q, s.heap.size ≤ q → A q) (hK : kon D cs A s s.heap) (hS : va_S A s.heap H locs)
    (hn : As.length = n) (hsize : ls.size = nL) (hstack : st0 = As.reverse ++ .ref b :: rest) (hW : (rest.map fun v => v.category).sum ≤ 8) (hdg : decode cc pc = .ok (.invokespecial index, 3)) (hf : cells + mc ≤ R.cells ∧ slots + ms ≤ R.slots) :
    va_Run p l e R s m args below meth c H locs cells slots mc ms (F0 m pc ls st0) rest (Qc (Value.ref b :: As).toArray) A := by
  obtain ⟨⟨x1, x2, x3, x4⟩, x6, x7⟩ := X
  exact va_runI F hM (cwI n F.2.2.2.2 (gw_cons x4) rfl hrc hrs (F.2.2.2.2 _ x3) (F.2.2.2.2 _ x1) (F.2.2.2.2 _ x2) x7 x6 hR) ⟨ww_blind, ww_at hP hA hK hS⟩ rfl hn hsize hstack (lv_room hW) hdg hf
theorem pw_ci {post : Int32 → pw_H → Prop} {a0 : Array Value} (hr : va_Run p l e R s m args below meth c H locs cells slots mc ms (F0 m pc ls st0) rest (va_Qi post (ww D cs A) A a0) A) (hS : va_S A s.heap H locs)
    (kk : ∀ (r : Int32) (h1 : pw_H) (H1 : Heap) (locs1 : List Loc), post r h1 → pw D vwCl A h1 H1 → va_S A s.heap H1 locs1 → W p l e R s m args below meth c H1 locs1 (cells + mc) (slots + ms) Q (F0 m (pc + 3) ls (.int r :: rest))) : W p l e R s m args below meth c H locs cells slots Q (F0 m pc ls st0) :=
  va_calli hr hS (fun _ _ z => z) (fun _ z => z) (fun r u t H1 locs1 ht _ hp hB _ _ hS1 => kk r u H1 locs1 hp (by rw [← ht]; exact hB.1) hS1)
theorem pw_cv {post : pw_H → Prop} {a0 : Array Value} (hr : va_Run p l e R s m args below meth c H locs cells slots mc ms (F0 m pc ls st0) rest (va_Qv post (ww D cs A) A a0) A) (hS : va_S A s.heap H locs)
    (kk : ∀ (h1 : pw_H) (H1 : Heap) (locs1 : List Loc), post h1 → pw D vwCl A h1 H1 → va_S A s.heap H1 locs1 → W p l e R s m args below meth c H1 locs1 (cells + mc) (slots + ms) Q (F0 m (pc + 3) ls rest)) : W p l e R s m args below meth c H locs cells slots Q (F0 m pc ls st0) :=
  va_callv hr hS (fun _ _ z => z) (fun _ z => z) (fun u t H1 locs1 ht _ hp hB _ _ hS1 => kk u H1 locs1 hp (by rw [← ht]; exact hB.1) hS1)
theorem pw_cr {post : Nat → pw_H → Prop} {a0 : Array Value} (hr : va_Run p l e R s m args below meth c H locs cells slots mc ms (F0 m pc ls st0) rest (va_Qr (fun _ => True) (fun (h1 : pw_H) (r : Nat) (t : State) => post r h1 ∧ ww D cs A h1 t) A a0) A) (hS : va_S A s.heap H locs)
    (kk : ∀ (r : Nat) (h1 : pw_H) (H1 : Heap) (locs1 : List Loc), post r h1 → pw D vwCl A h1 H1 → va_S A s.heap H1 locs1 → W p l e R s m args below meth c H1 locs1 (cells + mc) (slots + ms) Q (F0 m (pc + 3) ls (.ref r :: rest))) : W p l e R s m args below meth c H locs cells slots Q (F0 m pc ls st0) :=
  va_callr hr hS (fun _ _ z => z) (fun _ z => z) (fun u ra t H1 locs1 ht _ _ hB _ _ hS1 => kk ra u H1 locs1 hB.1 (by rw [← ht]; exact hB.2.1) hS1)
theorem ww_end (hP : pw D vwCl A h H) (hA : ∀ q, s.heap.size ≤ q → A q) (hK : kon D cs A s s.heap) (hS : va_S A s.heap H locs) (t : State) (ht : t.heap = H) (hW : s.WarmedH t.vm) : ww D cs A h t :=
  ⟨by rw [ht]; exact hP, fun q hq => hA q (Nat.le_trans hS.1 (by rw [← ht]; exact hq)), kon.go hK hS ht hW⟩
theorem pw_iret {post : Int32 → pw_H → Prop} {v : Int32} (F : CallFix p m c cc nL s args gws own) (hr : meth.sig.returnType = some .int) (hlk : meth.locks = false) (hP : pw D vwCl A h H) (hA : ∀ q, s.heap.size ≤ q → A q) (hK : kon D cs A s s.heap) (hS : va_S A s.heap H locs) (hc : cells ≤ mc) (hs : slots ≤ ms) (hdg : decode cc pc = .ok (.ireturn, 1)) (hq : post v h) :
    W p l e R s m args below meth c H locs cells slots (MQ below (va_Qi post (ww D cs A) A) args s mc ms A) (F0 m pc ls [.int v]) :=
  W.widen hc hs (W.iret F.1 F.2.1 hr (fun t ht hW => ⟨⟨v, h, rfl, hq, ww_end hP hA hK hS t ht hW⟩, hS.F ht⟩) hS.2.2 hdg hlk)
theorem pw_zret {post : Int32 → pw_H → Prop} {v : Int32} (F : CallFix p m c cc nL s args gws own) (hr : meth.sig.returnType = some .boolean) (hn : narrow .boolean (.int v) = .int v) (hlk : meth.locks = false) (hP : pw D vwCl A h H) (hA : ∀ q, s.heap.size ≤ q → A q) (hK : kon D cs A s s.heap) (hS : va_S A s.heap H locs) (hc : cells ≤ mc) (hs : slots ≤ ms) (hdg : decode cc pc = .ok (.ireturn, 1)) (hq : post v h) :
    W p l e R s m args below meth c H locs cells slots (MQ below (va_Qi post (ww D cs A) A) args s mc ms A) (F0 m pc ls [.int v]) :=
  W.widen hc hs (W.zret F.1 F.2.1 hr hn (fun t ht hW => ⟨⟨v, h, rfl, hq, ww_end hP hA hK hS t ht hW⟩, hS.F ht⟩) hS.2.2 hdg hlk)
theorem pw_vret {post : pw_H → Prop} (F : CallFix p m c cc nL s args gws own) (hr : meth.sig.returnType = none) (hlk : meth.locks = false) (hP : pw D vwCl A h H) (hA : ∀ q, s.heap.size ≤ q → A q) (hK : kon D cs A s s.heap) (hS : va_S A s.heap H locs) (hc : cells ≤ mc) (hs : slots ≤ ms) (hdg : decode cc pc = .ok (.return_, 1)) (hq : post h) :
    W p l e R s m args below meth c H locs cells slots (MQ below (va_Qv post (ww D cs A) A) args s mc ms A) (F0 m pc ls []) :=
  W.widen hc hs (W.vret F.1 F.2.1 hr (fun t ht hW => ⟨⟨h, rfl, hq, ww_end hP hA hK hS t ht hW⟩, hS.F ht⟩) hS.2.2 hdg hlk)
theorem pw_aret {post : Nat → pw_H → Prop} {rt : FieldType} {b : Nat} (F : CallFix p m c cc nL s args gws own) (hr : meth.sig.returnType = some rt) (hrt : (∃ n, rt = .object n) ∨ ∃ t, rt = .array t) (hlk : meth.locks = false) (hP : pw D vwCl A h H) (hA : ∀ q, s.heap.size ≤ q → A q) (hK : kon D cs A s s.heap) (hS : va_S A s.heap H locs) (hc : cells ≤ mc) (hs : slots ≤ ms) (hdg : decode cc pc = .ok (.areturn, 1)) (hq : post b h) :
    W p l e R s m args below meth c H locs cells slots (MQ below (va_Qr (fun _ => True) (fun (h1 : pw_H) (r : Nat) (t : State) => post r h1 ∧ ww D cs A h1 t) A) args s mc ms A) (F0 m pc ls [.ref b]) :=
  W.widen hc hs (W.aret F.1 F.2.1 hr hrt (Or.inr ⟨b, rfl⟩) (fun t ht hW => ⟨⟨h, b, rfl, trivial, hq, ww_end hP hA hK hS t ht hW⟩, hS.F ht⟩) hS.2.2 hdg hlk)
end PWC
def tag : va_E → Nat
  | .inr o => o.1
  | .inl (_, n, .inl _) => 100 + n
  | .inl (_, n, .inr (.inl _)) => 200 + n
  | .inl (_, n, .inr (.inr _)) => 300 + n
theorem pu_t {h : pw_H} {a b : Nat} {ea eb : va_E} (hb : h b = some eb) (ha : h a = some ea) (ht : tag eb ≠ tag ea) : b ≠ a := fun z => by
  subst z
  rw [hb] at ha
  cases ha
  exact ht rfl
section PWN
variable {p : Program} {l : Launch} {e : Env} {R : Room} {s : State} {m : MethodId} {args : Array Value} {below : List Frame} {meth : Method} {c : Code} {H : Heap} {locs : List Loc} {cells slots : Nat} {Q : State → Prop}
variable {cc : ByteArray} {pc : Nat} {ls : Array Slot} {rest : List Value} {D : va_G} {cl : List vw_C} {A : Nat → Prop} {a : Nat} {tys : List (ClassId × FieldType)} {h : pw_H} {nL : Nat} {own : String} {Ts : List Cond}
theorem pw_ialdN (F : CallFix p m c cc nL s args Ts own) (hK : va_K D cl tys s) (hP : pw D cl A h H) (t0 : Nat) {cA : ClassId} {n : Nat} {f : Nat → Int32} (ha : h a = some (.inl (cA, n, .inl f))) (ht : tys[t0]? = some (cA, .int)) {k : Nat} (hk : k < n) (hn : n < 2 ^ 31) (hdg : decode cc pc = .ok (.iaload, 1))
    (kk : W p l e R s m args below meth c H locs cells slots Q (F0 m (pc + 1) ls (.int (f k) :: rest))) : W p l e R s m args below meth c H locs cells slots Q (F0 m pc ls (.int (nI k) :: .ref a :: rest)) :=
  pw_iald F hK hP t0 ha ht (vp_in_nI hk hn) hdg (by rw [nI_clamp (Nat.lt_trans hk hn)]; exact kk)
theorem pw_zaldN (F : CallFix p m c cc nL s args Ts own) (hK : va_K D cl tys s) (hP : pw D cl A h H) (t0 : Nat) {cA : ClassId} {n : Nat} {f : Nat → Int32} (ha : h a = some (.inl (cA, n, .inl f))) (ht : tys[t0]? = some (cA, .boolean)) {k : Nat} (hk : k < n) (hn : n < 2 ^ 31) (hdg : decode cc pc = .ok (.baload, 1))
    (kk : W p l e R s m args below meth c H locs cells slots Q (F0 m (pc + 1) ls (.int (f k) :: rest))) : W p l e R s m args below meth c H locs cells slots Q (F0 m pc ls (.int (nI k) :: .ref a :: rest)) :=
  pw_zald F hK hP t0 ha ht (vp_in_nI hk hn) hdg (by rw [nI_clamp (Nat.lt_trans hk hn)]; exact kk)
theorem pw_laldN (F : CallFix p m c cc nL s args Ts own) (hK : va_K D cl tys s) (hP : pw D cl A h H) (t0 : Nat) {cA : ClassId} {n : Nat} {f : Nat → Int64} (ha : h a = some (.inl (cA, n, .inr (.inl f)))) (ht : tys[t0]? = some (cA, .long)) {k : Nat} (hk : k < n) (hn : n < 2 ^ 31) (hdg : decode cc pc = .ok (.laload, 1))
    (kk : W p l e R s m args below meth c H locs cells slots Q (F0 m (pc + 1) ls (.long (f k) :: rest))) : W p l e R s m args below meth c H locs cells slots Q (F0 m pc ls (.int (nI k) :: .ref a :: rest)) :=
  pw_lald F hK hP t0 ha ht (vp_in_nI hk hn) hdg (by rw [nI_clamp (Nat.lt_trans hk hn)]; exact kk)
theorem pw_aldqN (F : CallFix p m c cc nL s args Ts own) (hK : va_K D cl tys s) (hP : pw D cl A h H) (t0 : Nat) {cA : ClassId} {C : String} {n : Nat} {f : Nat → Option Nat} (ha : h a = some (.inl (cA, n, .inr (.inr (.inr (.inr f)))))) (ht : tys[t0]? = some (cA, .object C)) {k : Nat} (hk : k < n) (hn : n < 2 ^ 31) (hdg : decode cc pc = .ok (.aaload, 1))
    (kk : W p l e R s m args below meth c H locs cells slots Q (F0 m (pc + 1) ls (va_rf (f k) :: rest))) : W p l e R s m args below meth c H locs cells slots Q (F0 m pc ls (.int (nI k) :: .ref a :: rest)) :=
  pw_aldq F hK hP t0 ha ht (vp_in_nI hk hn) hdg (by rw [nI_clamp (Nat.lt_trans hk hn)]; exact kk)
theorem pw_iastN (F : CallFix p m c cc nL s args Ts own) (hK : va_K D cl tys s) (hP : pw D cl A h H) (hS : va_S A s.heap H locs) (t0 : Nat) {cA : ClassId} {n : Nat} {f : Nat → Int32} (ha : h a = some (.inl (cA, n, .inl f))) (ht : tys[t0]? = some (cA, .int)) {k : Nat} {x : Int32} (hk : k < n) (hn : n < 2 ^ 31) (hdg : decode cc pc = .ok (.iastore, 1))
    (kk : ∀ (H1 : Heap) (locs1 : List Loc), pw D cl A (pu h a (.inl (cA, n, .inl (upd f k x)))) H1 → va_S A s.heap H1 locs1 → W p l e R s m args below meth c H1 locs1 cells slots Q (F0 m (pc + 1) ls rest)) : W p l e R s m args below meth c H locs cells slots Q (F0 m pc ls (.int x :: .int (nI k) :: .ref a :: rest)) :=
  pw_iast F hK hP hS t0 ha ht (vp_in_nI hk hn) hdg (by rw [nI_clamp (Nat.lt_trans hk hn)]; exact kk)
theorem pw_zastN (F : CallFix p m c cc nL s args Ts own) (hK : va_K D cl tys s) (hP : pw D cl A h H) (hS : va_S A s.heap H locs) (t0 : Nat) {cA : ClassId} {n : Nat} {f : Nat → Int32} (ha : h a = some (.inl (cA, n, .inl f))) (ht : tys[t0]? = some (cA, .boolean)) {k : Nat} {x : Int32} (hk : k < n) (hn : n < 2 ^ 31) (hx : vp_nar .boolean x = x) (hdg : decode cc pc = .ok (.bastore, 1))
    (kk : ∀ (H1 : Heap) (locs1 : List Loc), pw D cl A (pu h a (.inl (cA, n, .inl (upd f k x)))) H1 → va_S A s.heap H1 locs1 → W p l e R s m args below meth c H1 locs1 cells slots Q (F0 m (pc + 1) ls rest)) : W p l e R s m args below meth c H locs cells slots Q (F0 m pc ls (.int x :: .int (nI k) :: .ref a :: rest)) :=
  pw_zast F hK hP hS t0 ha ht (vp_in_nI hk hn) hdg (by rw [nI_clamp (Nat.lt_trans hk hn), hx]; exact kk)
theorem pw_lastN (F : CallFix p m c cc nL s args Ts own) (hK : va_K D cl tys s) (hP : pw D cl A h H) (hS : va_S A s.heap H locs) (t0 : Nat) {cA : ClassId} {n : Nat} {f : Nat → Int64} (ha : h a = some (.inl (cA, n, .inr (.inl f)))) (ht : tys[t0]? = some (cA, .long)) {k : Nat} {x : Int64} (hk : k < n) (hn : n < 2 ^ 31) (hdg : decode cc pc = .ok (.lastore, 1))
    (kk : ∀ (H1 : Heap) (locs1 : List Loc), pw D cl A (pu h a (.inl (cA, n, .inr (.inl (vp_updL f k x))))) H1 → va_S A s.heap H1 locs1 → W p l e R s m args below meth c H1 locs1 cells slots Q (F0 m (pc + 1) ls rest)) : W p l e R s m args below meth c H locs cells slots Q (F0 m pc ls (.long x :: .int (nI k) :: .ref a :: rest)) :=
  pw_last F hK hP hS t0 ha ht (vp_in_nI hk hn) hdg (by rw [nI_clamp (Nat.lt_trans hk hn)]; exact kk)
theorem pw_astqN1 (F : CallFix p m c cc nL s args Ts own) (hK : va_K D cl tys s) (hP : pw D cl A h H) (hS : va_S A s.heap H locs) (t0 ci : Nat) {cA : ClassId} {r : vw_C} {n v : Nat} {vs : List Value} {f : Nat → Option Nat} (ha : h a = some (.inl (cA, n, .inr (.inr (.inr (.inr f)))))) (ht : tys[t0]? = some (cA, .object r.1)) (hv : h v = some (.inr (ci, vs))) (hc : cl[ci]? = some r) {k : Nat} (hk : k < n) (hn : n < 2 ^ 31) (hdg : decode cc pc = .ok (.aastore, 1))
    (kk : ∀ (H1 : Heap) (locs1 : List Loc), pw D cl A (pu h a (.inl (cA, n, .inr (.inr (.inr (.inr (va_up f k (some v)))))))) H1 → va_S A s.heap H1 locs1 → W p l e R s m args below meth c H1 locs1 cells slots Q (F0 m (pc + 1) ls rest)) : W p l e R s m args below meth c H locs cells slots Q (F0 m pc ls (.ref v :: .int (nI k) :: .ref a :: rest)) :=
  pw_astq F hK hP hS t0 ci ha ht hv hc (vp_in_nI hk hn) hdg (by rw [nI_clamp (Nat.lt_trans hk hn)]; exact kk)
theorem pw_astqON (F : CallFix p m c cc nL s args Ts own) (hK : va_K D cl tys s) (hP : pw D cl A h H) (hS : va_S A s.heap H locs) (t0 ci : Nat) {E : String} {cA : ClassId} {r : vw_C} {n v : Nat} {vs : List Value} {f : Nat → Option Nat} (ha : h a = some (.inl (cA, n, .inr (.inr (.inr (.inr f)))))) (ht : tys[t0]? = some (cA, .object E)) (hca : va_Nw (.castable r.1 E) s) (hv : h v = some (.inr (ci, vs))) (hc : cl[ci]? = some r) {k : Nat} (hk : k < n) (hn : n < 2 ^ 31) (hdg : decode cc pc = .ok (.aastore, 1))
    (kk : ∀ (H1 : Heap) (locs1 : List Loc), pw D cl A (pu h a (.inl (cA, n, .inr (.inr (.inr (.inr (va_up f k (some v)))))))) H1 → va_S A s.heap H1 locs1 → W p l e R s m args below meth c H1 locs1 cells slots Q (F0 m (pc + 1) ls rest)) : W p l e R s m args below meth c H locs cells slots Q (F0 m pc ls (.ref v :: .int (nI k) :: .ref a :: rest)) :=
  pw_astqO F hK hP hS t0 ci ha ht hca hv hc (vp_in_nI hk hn) hdg (by rw [nI_clamp (Nat.lt_trans hk hn)]; exact kk)
theorem pw_astqNN (F : CallFix p m c cc nL s args Ts own) (hK : va_K D cl tys s) (hP : pw D cl A h H) (hS : va_S A s.heap H locs) (t0 : Nat) {C : String} {cA : ClassId} {n : Nat} {f : Nat → Option Nat} (ha : h a = some (.inl (cA, n, .inr (.inr (.inr (.inr f)))))) (ht : tys[t0]? = some (cA, .object C)) {k : Nat} (hk : k < n) (hn : n < 2 ^ 31) (hdg : decode cc pc = .ok (.aastore, 1))
    (kk : ∀ (H1 : Heap) (locs1 : List Loc), pw D cl A (pu h a (.inl (cA, n, .inr (.inr (.inr (.inr (va_up f k none))))))) H1 → va_S A s.heap H1 locs1 → W p l e R s m args below meth c H1 locs1 cells slots Q (F0 m (pc + 1) ls rest)) : W p l e R s m args below meth c H locs cells slots Q (F0 m pc ls (.null :: .int (nI k) :: .ref a :: rest)) :=
  pw_astqN F hK hP hS t0 ha ht (vp_in_nI hk hn) hdg (by rw [nI_clamp (Nat.lt_trans hk hn)]; exact kk)
end PWN
section PWE
variable {p : Program} {l : Launch} {e : Env} {R : Room} {s : State} {m : MethodId} {args : Array Value} {below : List Frame} {meth : Method} {c : Code} {H : Heap} {locs : List Loc} {cells slots : Nat} {Q : State → Prop}
variable {pc : Nat} {ls : Array Slot} {rest st0 : List Value} {D : va_G} {cs : Nat → Nat} {A : Nat → Prop} {hE : pw_H} {mc ms : Nat} {a0 : Array Value}
/-- calls whose end is told outright -/
theorem pw_ciE {rE : Int32} (hr : va_Run p l e R s m args below meth c H locs cells slots mc ms (F0 m pc ls st0) rest (va_Qi (fun (r : Int32) (h' : pw_H) => h' = hE ∧ r = rE) (ww D cs A) A a0) A) (hS : va_S A s.heap H locs)
    (kk : ∀ (H1 : Heap) (locs1 : List Loc), pw D vwCl A hE H1 → va_S A s.heap H1 locs1 → W p l e R s m args below meth c H1 locs1 (cells + mc) (slots + ms) Q (F0 m (pc + 3) ls (.int rE :: rest))) : W p l e R s m args below meth c H locs cells slots Q (F0 m pc ls st0) :=
  pw_ci hr hS (fun r h1 H1 locs1 hq hP hS => by obtain ⟨e1, e2⟩ := hq; rw [e1] at hP; rw [e2]; exact kk H1 locs1 hP hS)
theorem pw_cvE (hr : va_Run p l e R s m args below meth c H locs cells slots mc ms (F0 m pc ls st0) rest (va_Qv (fun (h' : pw_H) => h' = hE) (ww D cs A) A a0) A) (hS : va_S A s.heap H locs)
    (kk : ∀ (H1 : Heap) (locs1 : List Loc), pw D vwCl A hE H1 → va_S A s.heap H1 locs1 → W p l e R s m args below meth c H1 locs1 (cells + mc) (slots + ms) Q (F0 m (pc + 3) ls rest)) : W p l e R s m args below meth c H locs cells slots Q (F0 m pc ls st0) :=
  pw_cv hr hS (fun h1 H1 locs1 hq hP hS => by rw [hq] at hP; exact kk H1 locs1 hP hS)
theorem pw_crE {rE : Nat} (hr : va_Run p l e R s m args below meth c H locs cells slots mc ms (F0 m pc ls st0) rest (va_Qr (fun _ => True) (fun (h' : pw_H) (r : Nat) (t : State) => (h' = hE ∧ r = rE) ∧ ww D cs A h' t) A a0) A) (hS : va_S A s.heap H locs)
    (kk : ∀ (H1 : Heap) (locs1 : List Loc), pw D vwCl A hE H1 → va_S A s.heap H1 locs1 → W p l e R s m args below meth c H1 locs1 (cells + mc) (slots + ms) Q (F0 m (pc + 3) ls (.ref rE :: rest))) : W p l e R s m args below meth c H locs cells slots Q (F0 m pc ls st0) :=
  pw_cr (post := fun r h' => h' = hE ∧ r = rE) hr hS (fun r h1 H1 locs1 hq hP hS => by obtain ⟨e1, e2⟩ := hq; rw [e1] at hP; rw [e2]; exact kk H1 locs1 hP hS)
end PWE
/-- h' holds all that h holds but at the places X, and no fewer places -/
def ext (h h' : pw_H) (X : List Nat) : Prop := (∀ (q : Nat) (e : va_E), h q = some e → q ∉ X → h' q = some e) ∧ ∀ q : Nat, h' q = none → h q = none
theorem ext.rf {h : pw_H} {X : List Nat} : ext h h X := ⟨fun _ _ z _ => z, fun _ z => z⟩
theorem ext.pu {h h1 : pw_H} {X : List Nat} {a : Nat} {e : va_E} (hx : ext h h1 X) (ha : a ∈ X ∨ h a = none) : ext h (pu h1 a e) X := by
  refine ⟨fun q e' hq hn => pu_k (hx.1 q e' hq hn) (fun z => ?_), fun q hq => ?_⟩
  · subst z
    rcases ha with ha | ha
    · exact hn ha
    · rw [ha] at hq; cases hq
  · by_cases hqa : q = a
    · subst hqa; rw [pu_s] at hq; cases hq
    · rw [pu_n hqa] at hq; exact hx.2 q hq
theorem ext.trans {h h1 h2 : pw_H} {X Y : List Nat} (hx : ext h h1 X) (hy : ext h1 h2 Y) (hY : ∀ y, y ∈ Y → y ∈ X ∨ h y = none) : ext h h2 X := by
  refine ⟨fun q e hq hn => hy.1 q e (hx.1 q e hq hn) (fun z => ?_), fun q hq => hx.2 q (hy.2 q hq)⟩
  rcases hY q z with h9 | h9
  · exact hn h9
  · rw [h9] at hq; cases hq
theorem ext.more {h h1 : pw_H} {X Y : List Nat} (hx : ext h h1 X) (hY : ∀ y, y ∈ X → y ∈ Y) : ext h h1 Y := ⟨fun q e hq hn => hx.1 q e hq (fun z => hn (hY q z)), hx.2⟩
theorem ext.at {h h1 : pw_H} {X : List Nat} {q : Nat} {e : va_E} (hx : ext h h1 X) (hq : h q = some e) (hn : q ∉ X) : h1 q = some e := hx.1 q e hq hn
theorem ext.dom {h h1 : pw_H} {X : List Nat} {q : Nat} {e : va_E} (hx : ext h h1 X) (hq : h q = some e) : ∃ e', h1 q = some e' := by
  cases h9 : h1 q with
  | none => rw [hx.2 q h9] at hq; cases hq
  | some e' => exact ⟨e', rfl⟩
theorem nin1 {q a : Nat} (h1 : q ≠ a) : q ∉ [a] := fun z => h1 (List.mem_singleton.mp z)
theorem nin2 {q a b : Nat} (h1 : q ≠ a) (h2 : q ≠ b) : q ∉ [a, b] := fun z => (List.mem_cons.mp z).elim h1 (nin1 h2)
theorem nin3 {q a b c : Nat} (h1 : q ≠ a) (h2 : q ≠ b) (h3 : q ≠ c) : q ∉ [a, b, c] := fun z => (List.mem_cons.mp z).elim h1 (nin2 h2 h3)
theorem nin4 {q a b c d : Nat} (h1 : q ≠ a) (h2 : q ≠ b) (h3 : q ≠ c) (h4 : q ≠ d) : q ∉ [a, b, c, d] := fun z => (List.mem_cons.mp z).elim h1 (nin3 h2 h3 h4)
theorem nin0 {q : Nat} : q ∉ ([] : List Nat) := fun z => nomatch z
/-- what is there is none of what was not -/
theorem none_ne {h : pw_H} {a b : Nat} {e : va_E} (hb : h b = some e) (ha : h a = none) : b ≠ a := fun z => by rw [z, ha] at hb; cases hb
end
section
abbrev rm_AL_size : Room := { frames := 0, cells := 0, slots := 0, locals := 0 }
set_option maxHeartbeats 4000000 in
set_option maxRecDepth 100000 in
theorem c_AL_size (l : Launch) (D : va_G) (cs : Nat → Nat) (A : Nat → Prop) (h : pw_H) (L : Nat) (E : Value) (n mc : Int32) (fL : h L = some (.inr (0, [E, .int n, .int mc]))) : pm l y_AL_size b_AL_size 1 (some .int) rm_AL_size [.ref L] D cs A h (va_Qi (fun (r : Int32) (h' : pw_H) => h' = h ∧ r = n) (ww D cs A) A) 0 0 := by
  refine pm_of R_AL rfl (by decide) (Nat.le_of_ble_eq_true rfl) (fun p e s m below meth c ls F hr hlk hnm hP hA hK hl => ?_)
  have hS : va_S A s.heap s.heap [] := va_S.rf
  replace hl : lv_has ls 1 [(0, .ref L)] := hl
  refine lv_aload_n F.1 F.2.1 d_AL_size_0 rfl (lv_at hl 0 rfl) ?_
  refine pw_get F I_AL hK.1 hP fL rfl 1 (by decide) L_AL_48 (fun _ z => z) rfl d_AL_size_1 ?_
  exact pw_iret F hr hlk hP hA hK hS (by decide) (by decide) d_AL_size_4 ⟨rfl, rfl⟩
abbrev rm_AL_isEmpty : Room := { frames := 0, cells := 0, slots := 0, locals := 0 }
set_option maxHeartbeats 4000000 in
set_option maxRecDepth 100000 in
theorem c_AL_isEmpty (l : Launch) (D : va_G) (cs : Nat → Nat) (A : Nat → Prop) (h : pw_H) (L : Nat) (E : Value) (n mc : Int32) (fL : h L = some (.inr (0, [E, .int n, .int mc]))) : pm l y_AL_isEmpty b_AL_isEmpty 1 (some .boolean) rm_AL_isEmpty [.ref L] D cs A h (va_Qi (fun (r : Int32) (h' : pw_H) => h' = h ∧ r = (if n = 0 then 1 else 0)) (ww D cs A) A) 0 0 := by
  refine pm_of R_AL rfl (by decide) (Nat.le_of_ble_eq_true rfl) (fun p e s m below meth c ls F hr hlk hnm hP hA hK hl => ?_)
  have hS : va_S A s.heap s.heap [] := va_S.rf
  replace hl : lv_has ls 1 [(0, .ref L)] := hl
  refine lv_aload_n F.1 F.2.1 d_AL_isEmpty_0 rfl (lv_at hl 0 rfl) ?_
  refine pw_get F I_AL hK.1 hP fL rfl 1 (by decide) L_AL_48 (fun _ z => z) rfl d_AL_isEmpty_1 ?_
  refine lv_if_ne (tgt := 11) F.1 F.2.1 d_AL_isEmpty_4 (by decide) (fun c1 => ?_) (fun c1 => ?_)
  · skip
    refine lv_iconst (v := 0) F.1 F.2.1 d_AL_isEmpty_11 (by decide) ?_
    exact pw_zret F hr rfl hlk hP hA hK hS (by decide) (by decide) d_AL_isEmpty_12 ⟨rfl, by rw [if_neg c1]⟩
  · skip
    refine lv_iconst (v := 1) F.1 F.2.1 d_AL_isEmpty_7 (by decide) ?_
    refine lv_goto (tgt := 12) F.1 F.2.1 d_AL_isEmpty_8 (by decide) ?_
    exact pw_zret F hr rfl hlk hP hA hK hS (by decide) (by decide) d_AL_isEmpty_12 ⟨rfl, by rw [if_pos c1]⟩
abbrev rm_B_init : Room := { frames := 1, cells := 2, slots := 24, locals := 16 }
set_option maxHeartbeats 4000000 in
set_option maxRecDepth 100000 in
theorem c_B_init (l : Launch) (D : va_G) (cs : Nat → Nat) (A : Nat → Prop) (h : pw_H) (b : Nat) (fb : h b = some (.inr (1, [.null, .null, .int 0]))) : pm l y_B_init b_B_init 1 none rm_B_init [.ref b] D cs A h (va_Qv (fun (h' : pw_H) => ∃ ka na : Nat, ka ≠ na ∧ h ka = none ∧ h na = none ∧ h' ka = some (.inl (cs 0, 12, .inl (fun _ => 0))) ∧ h' na = some (.inl (cs 0, 12, .inl (fun _ => 0))) ∧ h' b = some (.inr (1, [.ref ka, .ref na, .int 0])) ∧ ext h h' [b]) (ww D cs A) A) 2 24 := by
  refine pm_of R_B rfl (by decide) (Nat.le_of_ble_eq_true rfl) (fun p e s m below meth c ls F hr hlk hnm hP hA hK hl => ?_)
  have hS : va_S A s.heap s.heap [] := va_S.rf
  replace hl : lv_has ls 1 [(0, .ref b)] := hl
  have hx : ext h h [b] := ext.rf
  refine lv_aload_n F.1 F.2.1 d_B_init_0 rfl (lv_at hl 0 rfl) ?_
  refine W.objInit F.1 F.2.1 F.2.2.2.1 (F.2.2.2.2 _ O_B_3) (F.2.2.2.2 _ iM_obj) (F.2.2.2.2 _ co_obj) rfl (hl.1.trans F.2.2.1.symm) rfl d_B_init_1 (by decide) (Nat.le_of_ble_eq_true rfl) ?_
  refine W.eq (g2 := F0 m 4 ls []) (by rfl) ?_
  refine lv_aload_n F.1 F.2.1 d_B_init_4 rfl (lv_at hl 0 rfl) ?_
  refine lv_bipush (v := 12) F.1 F.2.1 d_B_init_5 (by decide) ?_
  refine pw_newa (a0 := (12, .inl (fun _ => 0))) (atype := .int) F aC_int rfl hK.1 hP hS hA 0 rfl (fun _ => rfl) (by decide) (by decide) (by decide) (by decide) (by decide) d_B_init_7 (fun q1 H n2 hP hS => ?_)
  have hP : pw D vwCl A (pu h q1 (.inl (cs 0, 12, .inl (fun _ => 0)))) H := hP
  have g5 : h q1 = none := hx.2 _ n2
  obtain ⟨h3, e4⟩ : ∃ z9 : pw_H, z9 = pu h q1 (.inl (cs 0, 12, .inl (fun _ => 0))) := ⟨_, rfl⟩
  rw [← e4] at hP
  have hx : ext h h3 [b] := by rw [e4]; exact hx.pu (Or.inr g5)
  have f6 : h3 q1 = some (.inl (cs 0, 12, .inl (fun _ => 0))) := by rw [e4]; exact pu_s
  have f7 : h3 b = some (.inr (1, [.null, .null, .int 0])) := by rw [e4]; exact pu_f n2 fb
  refine pw_putF F I_B ty_B k_B n_B hK.1 hP hS f7 rfl 0 (by decide) L_B_9 (fun _ z => z) rfl hnm rfl rfl rfl (Nat.le_of_ble_eq_true rfl) d_B_init_9 (fun H locs hP hS => ?_)
  have hP : pw D vwCl A (pu h3 b (.inr (1, [.ref q1, .null, .int 0]))) H := hP
  obtain ⟨h8, e9⟩ : ∃ z9 : pw_H, z9 = pu h3 b (.inr (1, [.ref q1, .null, .int 0])) := ⟨_, rfl⟩
  rw [← e9] at hP
  have hx : ext h h8 [b] := by rw [e9]; exact hx.pu (Or.inl (by simp))
  have f10 : h8 b = some (.inr (1, [.ref q1, .null, .int 0])) := by rw [e9]; exact pu_s
  refine lv_aload_n F.1 F.2.1 d_B_init_12 rfl (lv_at hl 0 rfl) ?_
  refine lv_bipush (v := 12) F.1 F.2.1 d_B_init_13 (by decide) ?_
  refine pw_newa (a0 := (12, .inl (fun _ => 0))) (atype := .int) F aC_int rfl hK.1 hP hS hA 0 rfl (fun _ => rfl) (by decide) (by decide) (by decide) (by decide) (by decide) d_B_init_15 (fun q11 H n12 hP hS => ?_)
  have f13 : h8 q1 = some (.inl (cs 0, 12, .inl (fun _ => 0))) := by rw [e9]; exact pu_k f6 (pu_t f6 f7 (show (112 : Nat) ≠ 1 by decide))
  have k14 : q1 ≠ q11 := none_ne f13 n12
  have hP : pw D vwCl A (pu h8 q11 (.inl (cs 0, 12, .inl (fun _ => 0)))) H := hP
  have g17 : h q11 = none := hx.2 _ n12
  obtain ⟨h15, e16⟩ : ∃ z9 : pw_H, z9 = pu h8 q11 (.inl (cs 0, 12, .inl (fun _ => 0))) := ⟨_, rfl⟩
  rw [← e16] at hP
  have hx : ext h h15 [b] := by rw [e16]; exact hx.pu (Or.inr g17)
  have f18 : h15 q11 = some (.inl (cs 0, 12, .inl (fun _ => 0))) := by rw [e16]; exact pu_s
  have f19 : h15 b = some (.inr (1, [.ref q1, .null, .int 0])) := by rw [e16]; exact pu_f n12 f10
  refine pw_putF F I_B ty_B k_B n_B hK.1 hP hS f19 rfl 1 (by decide) L_B_15 (fun _ z => z) rfl hnm rfl rfl rfl (Nat.le_of_ble_eq_true rfl) d_B_init_17 (fun H locs hP hS => ?_)
  have hP : pw D vwCl A (pu h15 b (.inr (1, [.ref q1, .ref q11, .int 0]))) H := hP
  obtain ⟨h20, e21⟩ : ∃ z9 : pw_H, z9 = pu h15 b (.inr (1, [.ref q1, .ref q11, .int 0])) := ⟨_, rfl⟩
  rw [← e21] at hP
  have hx : ext h h20 [b] := by rw [e21]; exact hx.pu (Or.inl (by simp))
  have f22 : h20 b = some (.inr (1, [.ref q1, .ref q11, .int 0])) := by rw [e21]; exact pu_s
  have f23 : h15 q1 = some (.inl (cs 0, 12, .inl (fun _ => 0))) := by rw [e16]; exact pu_f n12 f13
  have f24 : h20 q1 = some (.inl (cs 0, 12, .inl (fun _ => 0))) := by rw [e21]; exact pu_k f23 (pu_t f23 f19 (show (112 : Nat) ≠ 1 by decide))
  have f25 : h20 q11 = some (.inl (cs 0, 12, .inl (fun _ => 0))) := by rw [e21]; exact pu_k f18 (pu_t f18 f19 (show (112 : Nat) ≠ 1 by decide))
  exact pw_vret F hr hlk hP hA hK hS (by decide) (by decide) d_B_init_20 ⟨q1, q11, k14, g5, g17, f24, f25, f22, hx⟩
abbrev rm_B_isFull : Room := { frames := 0, cells := 0, slots := 0, locals := 0 }
set_option maxHeartbeats 4000000 in
set_option maxRecDepth 100000 in
theorem c_B_isFull (l : Launch) (D : va_G) (cs : Nat → Nat) (A : Nat → Prop) (h : pw_H) (b : Nat) (k n : Value) (z : Int32) (fb : h b = some (.inr (1, [k, n, .int z]))) : pm l y_B_isFull b_B_isFull 1 (some .boolean) rm_B_isFull [.ref b] D cs A h (va_Qi (fun (r : Int32) (h' : pw_H) => h' = h ∧ r = (if 12 ≤ z then 1 else 0)) (ww D cs A) A) 0 0 := by
  refine pm_of R_B rfl (by decide) (Nat.le_of_ble_eq_true rfl) (fun p e s m below meth c ls F hr hlk hnm hP hA hK hl => ?_)
  have hS : va_S A s.heap s.heap [] := va_S.rf
  replace hl : lv_has ls 1 [(0, .ref b)] := hl
  refine lv_aload_n F.1 F.2.1 d_B_isFull_0 rfl (lv_at hl 0 rfl) ?_
  refine pw_get F I_B hK.1 hP fb rfl 2 (by decide) L_B_18 (fun _ z => z) rfl d_B_isFull_1 ?_
  refine lv_bipush (v := 12) F.1 F.2.1 d_B_isFull_4 (by decide) ?_
  refine lv_icmp_lt (tgt := 13) F.1 F.2.1 d_B_isFull_6 (by decide) (fun c1 => ?_) (fun c1 => ?_)
  · skip
    refine lv_iconst (v := 0) F.1 F.2.1 d_B_isFull_13 (by decide) ?_
    exact pw_zret F hr rfl hlk hP hA hK hS (by decide) (by decide) d_B_isFull_14 ⟨rfl, by rw [if_neg (Int32.not_le.mpr c1)]⟩
  · skip
    refine lv_iconst (v := 1) F.1 F.2.1 d_B_isFull_9 (by decide) ?_
    refine lv_goto (tgt := 14) F.1 F.2.1 d_B_isFull_10 (by decide) ?_
    exact pw_zret F hr rfl hlk hP hA hK hS (by decide) (by decide) d_B_isFull_14 ⟨rfl, by rw [if_pos (Int32.not_lt.mp c1)]⟩
abbrev rm_B_append : Room := { frames := 0, cells := 0, slots := 0, locals := 0 }
set_option maxHeartbeats 4000000 in
set_option maxRecDepth 100000 in
theorem c_B_append (l : Launch) (D : va_G) (cs : Nat → Nat) (A : Nat → Prop) (h : pw_H) (b ka na z : Nat) (fk fn : Nat → Int32) (kd n : Int32) (hne : ka ≠ na) (hz : z < 12) (fb : h b = some (.inr (1, [.ref ka, .ref na, .int (nI z)]))) (fka : h ka = some (.inl (cs 0, 12, .inl fk))) (fna : h na = some (.inl (cs 0, 12, .inl fn))) : pm l y_B_append b_B_append 3 none rm_B_append [.ref b, .int kd, .int n] D cs A h (va_Qv (fun (h' : pw_H) => h' ka = some (.inl (cs 0, 12, .inl (upd fk z kd))) ∧ h' na = some (.inl (cs 0, 12, .inl (upd fn z n))) ∧ h' b = some (.inr (1, [.ref ka, .ref na, .int (nI z + 1)])) ∧ ext h h' [b, ka, na]) (ww D cs A) A) 0 0 := by
  refine pm_of R_B rfl (by decide) (Nat.le_of_ble_eq_true rfl) (fun p e s m below meth c ls F hr hlk hnm hP hA hK hl => ?_)
  have hS : va_S A s.heap s.heap [] := va_S.rf
  replace hl : lv_has ls 3 [(0, .ref b), (1, .int kd), (2, .int n)] := hl
  have hx : ext h h [b, ka, na] := ext.rf
  refine lv_aload_n F.1 F.2.1 d_B_append_0 rfl (lv_at hl 0 rfl) ?_
  refine pw_get F I_B hK.1 hP fb rfl 0 (by decide) L_B_9 (fun _ z => z) rfl d_B_append_1 ?_
  refine lv_aload_n F.1 F.2.1 d_B_append_4 rfl (lv_at hl 0 rfl) ?_
  refine pw_get F I_B hK.1 hP fb rfl 2 (by decide) L_B_18 (fun _ z => z) rfl d_B_append_5 ?_
  refine lv_iload_n F.1 F.2.1 d_B_append_8 rfl (lv_at hl 1 rfl) ?_
  refine pw_iastN F hK.1 hP hS 0 fka rfl (k := z) hz (by decide) d_B_append_9 (fun H locs hP hS => ?_)
  have hP : pw D vwCl A (pu h ka (.inl (cs 0, 12, .inl (upd fk z kd)))) H := hP
  obtain ⟨h1, e2⟩ : ∃ z9 : pw_H, z9 = pu h ka (.inl (cs 0, 12, .inl (upd fk z kd))) := ⟨_, rfl⟩
  rw [← e2] at hP
  have hx : ext h h1 [b, ka, na] := by rw [e2]; exact hx.pu (Or.inl (by simp))
  have f3 : h1 ka = some (.inl (cs 0, 12, .inl (upd fk z kd))) := by rw [e2]; exact pu_s
  refine lv_aload_n F.1 F.2.1 d_B_append_10 rfl (lv_at hl 0 rfl) ?_
  have f4 : h1 b = some (.inr (1, [.ref ka, .ref na, .int (nI z)])) := by rw [e2]; exact pu_k fb (pu_t fb fka (show (1 : Nat) ≠ 112 by decide))
  refine pw_get F I_B hK.1 hP f4 rfl 1 (by decide) L_B_15 (fun _ z => z) rfl d_B_append_11 ?_
  refine lv_aload_n F.1 F.2.1 d_B_append_14 rfl (lv_at hl 0 rfl) ?_
  refine pw_get F I_B hK.1 hP f4 rfl 2 (by decide) L_B_18 (fun _ z => z) rfl d_B_append_15 ?_
  refine lv_iload_n F.1 F.2.1 d_B_append_18 rfl (lv_at hl 2 rfl) ?_
  have f5 : h1 na = some (.inl (cs 0, 12, .inl fn)) := by rw [e2]; exact pu_k fna (Ne.symm hne)
  refine pw_iastN F hK.1 hP hS 0 f5 rfl (k := z) hz (by decide) d_B_append_19 (fun H locs hP hS => ?_)
  have hP : pw D vwCl A (pu h1 na (.inl (cs 0, 12, .inl (upd fn z n)))) H := hP
  obtain ⟨h6, e7⟩ : ∃ z9 : pw_H, z9 = pu h1 na (.inl (cs 0, 12, .inl (upd fn z n))) := ⟨_, rfl⟩
  rw [← e7] at hP
  have hx : ext h h6 [b, ka, na] := by rw [e7]; exact hx.pu (Or.inl (by simp))
  have f8 : h6 na = some (.inl (cs 0, 12, .inl (upd fn z n))) := by rw [e7]; exact pu_s
  refine lv_aload_n F.1 F.2.1 d_B_append_20 rfl (lv_at hl 0 rfl) ?_
  refine lv_dup F.1 F.2.1 d_B_append_21 rfl ?_
  have f9 : h6 b = some (.inr (1, [.ref ka, .ref na, .int (nI z)])) := by rw [e7]; exact pu_k f4 (pu_t f4 f5 (show (1 : Nat) ≠ 112 by decide))
  refine pw_get F I_B hK.1 hP f9 rfl 2 (by decide) L_B_18 (fun _ z => z) rfl d_B_append_22 ?_
  refine lv_iconst (v := 1) F.1 F.2.1 d_B_append_25 (by decide) ?_
  refine lv_iadd F.1 F.2.1 d_B_append_26 ?_
  refine pw_put F I_B ty_B k_B n_B hK.1 hP hS f9 rfl 2 (by decide) L_B_18 (fun _ z => z) rfl rfl rfl (Nat.le_of_ble_eq_true rfl) d_B_append_27 (fun H locs hP hS => ?_)
  have hP : pw D vwCl A (pu h6 b (.inr (1, [.ref ka, .ref na, .int ((nI z) + 1)]))) H := hP
  obtain ⟨h10, e11⟩ : ∃ z9 : pw_H, z9 = pu h6 b (.inr (1, [.ref ka, .ref na, .int ((nI z) + 1)])) := ⟨_, rfl⟩
  rw [← e11] at hP
  have hx : ext h h10 [b, ka, na] := by rw [e11]; exact hx.pu (Or.inl (by simp))
  have f12 : h10 b = some (.inr (1, [.ref ka, .ref na, .int ((nI z) + 1)])) := by rw [e11]; exact pu_s
  have f13 : h6 ka = some (.inl (cs 0, 12, .inl (upd fk z kd))) := by rw [e7]; exact pu_k f3 hne
  have f14 : h10 ka = some (.inl (cs 0, 12, .inl (upd fk z kd))) := by rw [e11]; exact pu_k f13 (pu_t f13 f9 (show (112 : Nat) ≠ 1 by decide))
  have f15 : h10 na = some (.inl (cs 0, 12, .inl (upd fn z n))) := by rw [e11]; exact pu_k f8 (pu_t f8 f9 (show (112 : Nat) ≠ 1 by decide))
  exact pw_vret F hr hlk hP hA hK hS (by decide) (by decide) d_B_append_30 ⟨f14, f15, f12, hx⟩
abbrev rm_Fn_init : Room := { frames := 2, cells := 3, slots := 27, locals := 36 }
set_option maxHeartbeats 4000000 in
set_option maxRecDepth 100000 in
theorem c_Fn_init (l : Launch) (D : va_G) (cs : Nat → Nat) (A : Nat → Prop) (h : pw_H) (a : Nat) (sg : Int32) (fa : h a = some (.inr (2, [.int 0, .null]))) : pm l y_Fn_init b_Fn_init 2 none rm_Fn_init [.ref a, .int sg] D cs A h (va_Qv (fun (h' : pw_H) => ∃ b ka na : Nat, ka ≠ na ∧ h b = none ∧ h ka = none ∧ h na = none ∧ h' a = some (.inr (2, [.int sg, .ref b])) ∧ h' b = some (.inr (1, [.ref ka, .ref na, .int 0])) ∧ h' ka = some (.inl (cs 0, 12, .inl (fun _ => 0))) ∧ h' na = some (.inl (cs 0, 12, .inl (fun _ => 0))) ∧ ext h h' [a]) (ww D cs A) A) 3 27 := by
  refine pm_of R_Fn rfl (by decide) (Nat.le_of_ble_eq_true rfl) (fun p e s m below meth c ls F hr hlk hnm hP hA hK hl => ?_)
  have hS : va_S A s.heap s.heap [] := va_S.rf
  replace hl : lv_has ls 2 [(0, .ref a), (1, .int sg)] := hl
  have hx : ext h h [a] := ext.rf
  refine lv_aload_n F.1 F.2.1 d_Fn_init_0 rfl (lv_at hl 0 rfl) ?_
  refine W.objInit F.1 F.2.1 F.2.2.2.1 (F.2.2.2.2 _ O_Fn_1) (F.2.2.2.2 _ iM_obj) (F.2.2.2.2 _ co_obj) rfl (hl.1.trans F.2.2.1.symm) rfl d_Fn_init_1 (by decide) (Nat.le_of_ble_eq_true rfl) ?_
  refine W.eq (g2 := F0 m 4 ls []) (by rfl) ?_
  refine lv_aload_n F.1 F.2.1 d_Fn_init_4 rfl (lv_at hl 0 rfl) ?_
  refine lv_iload_n F.1 F.2.1 d_Fn_init_5 rfl (lv_at hl 1 rfl) ?_
  refine pw_putF F I_Fn ty_Fn k_Fn n_Fn hK.1 hP hS fa rfl 0 (by decide) L_Fn_7 (fun _ z => z) rfl hnm rfl rfl rfl (Nat.le_of_ble_eq_true rfl) d_Fn_init_6 (fun H locs hP hS => ?_)
  have hP : pw D vwCl A (pu h a (.inr (2, [.int sg, .null]))) H := hP
  obtain ⟨h1, e2⟩ : ∃ z9 : pw_H, z9 = pu h a (.inr (2, [.int sg, .null])) := ⟨_, rfl⟩
  rw [← e2] at hP
  have hx : ext h h1 [a] := by rw [e2]; exact hx.pu (Or.inl (by simp))
  have f3 : h1 a = some (.inr (2, [.int sg, .null])) := by rw [e2]; exact pu_s
  refine lv_aload_n F.1 F.2.1 d_Fn_init_9 rfl (lv_at hl 0 rfl) ?_
  refine pw_new (ci := 1) (fs := [.null, .null, .int 0]) F I_B ty_B k_B C_Fn_13 N_B Z_B hK.1 hP hS hA rfl (fun j hj => by rcases (show j = 0 ∨ j = 1 ∨ j = 2 by omega) with rfl | rfl | rfl <;> rfl) (by decide) (by decide) d_Fn_init_10 (fun q4 H n5 hP hS => ?_)
  have hP : pw D vwCl A (pu h1 q4 (.inr (1, [.null, .null, .int 0]))) H := hP
  have g8 : h q4 = none := hx.2 _ n5
  obtain ⟨h6, e7⟩ : ∃ z9 : pw_H, z9 = pu h1 q4 (.inr (1, [.null, .null, .int 0])) := ⟨_, rfl⟩
  rw [← e7] at hP
  have hx : ext h h6 [a] := by rw [e7]; exact hx.pu (Or.inr g8)
  have f9 : h6 q4 = some (.inr (1, [.null, .null, .int 0])) := by rw [e7]; exact pu_s
  refine lv_dup F.1 F.2.1 d_Fn_init_13 rfl ?_
  refine pw_cv (pr_I F (c_B_init l D cs A h6 q4 f9) X_Fn_15 rfl rfl ⟨by decide, by decide⟩ hP hA hK hS rfl hl.1 rfl (Nat.le_of_ble_eq_true rfl) d_Fn_init_14 ⟨by decide, by decide⟩) hS (fun hw8 H locs hq hP hS => ?_)
  obtain ⟨ka, na, kw9, jw1, jw2, jw3, jw4, jw5, jw6⟩ := hq
  have g10 : h ka = none := hx.2 _ jw1
  have g11 : h na = none := hx.2 _ jw2
  have hx : ext h hw8 [a] := hx.trans jw6 (fun y hy => by
    simp only [List.mem_cons, List.not_mem_nil, or_false] at hy
    rcases hy with rfl
    · exact Or.inr g8)
  have f12 : h6 a = some (.inr (2, [.int sg, .null])) := by rw [e7]; exact pu_f n5 f3
  have f13 : hw8 a = some (.inr (2, [.int sg, .null])) := jw6.1 _ _ f12 (nin1 (pu_t f12 f9 (show (2 : Nat) ≠ 1 by decide)))
  refine pw_putF F I_Fn ty_Fn k_Fn n_Fn hK.1 hP hS f13 rfl 1 (by decide) L_Fn_16 (fun _ z => z) rfl hnm rfl rfl rfl (Nat.le_of_ble_eq_true rfl) d_Fn_init_17 (fun H locs hP hS => ?_)
  have hP : pw D vwCl A (pu hw8 a (.inr (2, [.int sg, .ref q4]))) H := hP
  obtain ⟨h14, e15⟩ : ∃ z9 : pw_H, z9 = pu hw8 a (.inr (2, [.int sg, .ref q4])) := ⟨_, rfl⟩
  rw [← e15] at hP
  have hx : ext h h14 [a] := by rw [e15]; exact hx.pu (Or.inl (by simp))
  have f16 : h14 a = some (.inr (2, [.int sg, .ref q4])) := by rw [e15]; exact pu_s
  have f17 : h14 q4 = some (.inr (1, [.ref ka, .ref na, .int 0])) := by rw [e15]; exact pu_k jw5 (pu_t jw5 f13 (show (1 : Nat) ≠ 2 by decide))
  have f18 : h14 ka = some (.inl (cs 0, 12, .inl (fun _ => 0))) := by rw [e15]; exact pu_k jw3 (pu_t jw3 f13 (show (112 : Nat) ≠ 2 by decide))
  have f19 : h14 na = some (.inl (cs 0, 12, .inl (fun _ => 0))) := by rw [e15]; exact pu_k jw4 (pu_t jw4 f13 (show (112 : Nat) ≠ 2 by decide))
  exact pw_vret F hr hlk hP hA hK hS (by decide) (by decide) d_Fn_init_20 ⟨q4, ka, na, kw9, g8, g10, g11, f16, f17, f18, f19, hx⟩
abbrev rm_P_init : Room := { frames := 1, cells := 2, slots := 16, locals := 16 }
set_option maxHeartbeats 4000000 in
set_option maxRecDepth 100000 in
theorem c_P_init (l : Launch) (D : va_G) (cs : Nat → Nat) (A : Nat → Prop) (h : pw_H) (a : Nat) (fa : h a = some (.inr (3, [.null, .null, .int 0]))) : pm l y_P_init b_P_init 1 none rm_P_init [.ref a] D cs A h (va_Qv (fun (h' : pw_H) => ∃ ba sa : Nat, h ba = none ∧ h sa = none ∧ h' ba = some (.inl (cs 3, 8, .inr (.inr (.inr (.inr (fun _ => none)))))) ∧ h' sa = some (.inl (cs 0, 8, .inl (fun _ => 0))) ∧ h' a = some (.inr (3, [.ref ba, .ref sa, .int 0])) ∧ ext h h' [a]) (ww D cs A) A) 2 16 := by
  refine pm_of R_P rfl (by decide) (Nat.le_of_ble_eq_true rfl) (fun p e s m below meth c ls F hr hlk hnm hP hA hK hl => ?_)
  have hS : va_S A s.heap s.heap [] := va_S.rf
  replace hl : lv_has ls 1 [(0, .ref a)] := hl
  have hx : ext h h [a] := ext.rf
  refine lv_aload_n F.1 F.2.1 d_P_init_0 rfl (lv_at hl 0 rfl) ?_
  refine W.objInit F.1 F.2.1 F.2.2.2.1 (F.2.2.2.2 _ O_P_3) (F.2.2.2.2 _ iM_obj) (F.2.2.2.2 _ co_obj) rfl (hl.1.trans F.2.2.1.symm) rfl d_P_init_1 (by decide) (Nat.le_of_ble_eq_true rfl) ?_
  refine W.eq (g2 := F0 m 4 ls []) (by rfl) ?_
  refine lv_aload_n F.1 F.2.1 d_P_init_4 rfl (lv_at hl 0 rfl) ?_
  refine lv_bipush (v := 8) F.1 F.2.1 d_P_init_5 (by decide) ?_
  refine pw_newq (N' := 8) F C_P_9 (hK.2.2.2.2.2.2.2.2 _ (by decide)) hK.1 hP hS hA 3 rfl (by decide) (by decide) (by decide) (by decide) (by decide) d_P_init_7 (fun q1 H n2 hP hS => ?_)
  have hP : pw D vwCl A (pu h q1 (.inl (cs 3, 8, .inr (.inr (.inr (.inr (fun _ => none))))))) H := hP
  have g5 : h q1 = none := hx.2 _ n2
  obtain ⟨h3, e4⟩ : ∃ z9 : pw_H, z9 = pu h q1 (.inl (cs 3, 8, .inr (.inr (.inr (.inr (fun _ => none)))))) := ⟨_, rfl⟩
  rw [← e4] at hP
  have hx : ext h h3 [a] := by rw [e4]; exact hx.pu (Or.inr g5)
  have f6 : h3 q1 = some (.inl (cs 3, 8, .inr (.inr (.inr (.inr (fun _ => none)))))) := by rw [e4]; exact pu_s
  have f7 : h3 a = some (.inr (3, [.null, .null, .int 0])) := by rw [e4]; exact pu_f n2 fa
  refine pw_putF F I_P ty_P k_P n_P hK.1 hP hS f7 rfl 0 (by decide) L_P_11 (fun _ z => z) rfl hnm rfl rfl rfl (Nat.le_of_ble_eq_true rfl) d_P_init_10 (fun H locs hP hS => ?_)
  have hP : pw D vwCl A (pu h3 a (.inr (3, [.ref q1, .null, .int 0]))) H := hP
  obtain ⟨h8, e9⟩ : ∃ z9 : pw_H, z9 = pu h3 a (.inr (3, [.ref q1, .null, .int 0])) := ⟨_, rfl⟩
  rw [← e9] at hP
  have hx : ext h h8 [a] := by rw [e9]; exact hx.pu (Or.inl (by simp))
  have f10 : h8 a = some (.inr (3, [.ref q1, .null, .int 0])) := by rw [e9]; exact pu_s
  refine lv_aload_n F.1 F.2.1 d_P_init_13 rfl (lv_at hl 0 rfl) ?_
  refine lv_bipush (v := 8) F.1 F.2.1 d_P_init_14 (by decide) ?_
  refine pw_newa (a0 := (8, .inl (fun _ => 0))) (atype := .int) F aC_int rfl hK.1 hP hS hA 0 rfl (fun _ => rfl) (by decide) (by decide) (by decide) (by decide) (by decide) d_P_init_16 (fun q11 H n12 hP hS => ?_)
  have hP : pw D vwCl A (pu h8 q11 (.inl (cs 0, 8, .inl (fun _ => 0)))) H := hP
  have g15 : h q11 = none := hx.2 _ n12
  obtain ⟨h13, e14⟩ : ∃ z9 : pw_H, z9 = pu h8 q11 (.inl (cs 0, 8, .inl (fun _ => 0))) := ⟨_, rfl⟩
  rw [← e14] at hP
  have hx : ext h h13 [a] := by rw [e14]; exact hx.pu (Or.inr g15)
  have f16 : h13 q11 = some (.inl (cs 0, 8, .inl (fun _ => 0))) := by rw [e14]; exact pu_s
  have f17 : h13 a = some (.inr (3, [.ref q1, .null, .int 0])) := by rw [e14]; exact pu_f n12 f10
  refine pw_putF F I_P ty_P k_P n_P hK.1 hP hS f17 rfl 1 (by decide) L_P_17 (fun _ z => z) rfl hnm rfl rfl rfl (Nat.le_of_ble_eq_true rfl) d_P_init_18 (fun H locs hP hS => ?_)
  have hP : pw D vwCl A (pu h13 a (.inr (3, [.ref q1, .ref q11, .int 0]))) H := hP
  obtain ⟨h18, e19⟩ : ∃ z9 : pw_H, z9 = pu h13 a (.inr (3, [.ref q1, .ref q11, .int 0])) := ⟨_, rfl⟩
  rw [← e19] at hP
  have hx : ext h h18 [a] := by rw [e19]; exact hx.pu (Or.inl (by simp))
  have f20 : h18 a = some (.inr (3, [.ref q1, .ref q11, .int 0])) := by rw [e19]; exact pu_s
  have f21 : h8 q1 = some (.inl (cs 3, 8, .inr (.inr (.inr (.inr (fun _ => none)))))) := by rw [e9]; exact pu_k f6 (pu_t f6 f7 (show (308 : Nat) ≠ 3 by decide))
  have f22 : h13 q1 = some (.inl (cs 3, 8, .inr (.inr (.inr (.inr (fun _ => none)))))) := by rw [e14]; exact pu_f n12 f21
  have f23 : h18 q1 = some (.inl (cs 3, 8, .inr (.inr (.inr (.inr (fun _ => none)))))) := by rw [e19]; exact pu_k f22 (pu_t f22 f17 (show (308 : Nat) ≠ 3 by decide))
  have f24 : h18 q11 = some (.inl (cs 0, 8, .inl (fun _ => 0))) := by rw [e19]; exact pu_k f16 (pu_t f16 f17 (show (108 : Nat) ≠ 3 by decide))
  exact pw_vret F hr hlk hP hA hK hS (by decide) (by decide) d_P_init_21 ⟨q1, q11, g5, g15, f23, f24, f20, hx⟩
abbrev rm_P_hasNamed : Room := { frames := 0, cells := 0, slots := 0, locals := 0 }
set_option maxHeartbeats 4000000 in
set_option maxRecDepth 100000 in
theorem c_P_hasNamed (l : Launch) (D : va_G) (cs : Nat → Nat) (A : Nat → Prop) (h : pw_H) (a ba k : Nat) (sv nv : Value) (q : Nat → Option Nat) (hk : k < 8) (fa : h a = some (.inr (3, [.ref ba, sv, nv]))) (fba : h ba = some (.inl (cs 3, 8, .inr (.inr (.inr (.inr q)))))) : pm l y_P_hasNamed b_P_hasNamed 2 (some .boolean) rm_P_hasNamed [.ref a, .int (nI k)] D cs A h (va_Qi (fun (r : Int32) (h' : pw_H) => h' = h ∧ r = (if q k = none then 0 else 1)) (ww D cs A) A) 0 0 := by
  refine pm_of R_P rfl (by decide) (Nat.le_of_ble_eq_true rfl) (fun p e s m below meth c ls F hr hlk hnm hP hA hK hl => ?_)
  have hS : va_S A s.heap s.heap [] := va_S.rf
  replace hl : lv_has ls 2 [(0, .ref a), (1, .int (nI k))] := hl
  refine lv_aload_n F.1 F.2.1 d_P_hasNamed_0 rfl (lv_at hl 0 rfl) ?_
  refine pw_get F I_P hK.1 hP fa rfl 0 (by decide) L_P_11 (fun _ z => z) rfl d_P_hasNamed_1 ?_
  refine lv_iload_n F.1 F.2.1 d_P_hasNamed_4 rfl (lv_at hl 1 rfl) ?_
  refine pw_aldqN F hK.1 hP 3 fba rfl (k := k) hk (by decide) d_P_hasNamed_5 ?_
  rcases v1 : q k with _ | y
  · skip
    refine W.eq (g2 := F0 m 6 ls [.null]) (by rfl) ?_
    refine lv_ifnullN (tgt := 13) F.1 F.2.1 d_P_hasNamed_6 (by decide) ?_
    refine lv_iconst (v := 0) F.1 F.2.1 d_P_hasNamed_13 (by decide) ?_
    exact pw_zret F hr rfl hlk hP hA hK hS (by decide) (by decide) d_P_hasNamed_14 ⟨rfl, by simp⟩
  · skip
    refine W.eq (g2 := F0 m 6 ls [.ref y]) (by rfl) ?_
    refine lv_ifnull F.1 F.2.1 d_P_hasNamed_6 ?_
    refine lv_iconst (v := 1) F.1 F.2.1 d_P_hasNamed_9 (by decide) ?_
    refine lv_goto (tgt := 14) F.1 F.2.1 d_P_hasNamed_10 (by decide) ?_
    exact pw_zret F hr rfl hlk hP hA hK hS (by decide) (by decide) d_P_hasNamed_14 ⟨rfl, by simp⟩
abbrev rm_P_include : Room := { frames := 2, cells := 3, slots := 27, locals := 36 }
set_option maxHeartbeats 4000000 in
set_option maxRecDepth 100000 in
theorem c_P_include (l : Launch) (D : va_G) (cs : Nat → Nat) (A : Nat → Prop) (h : pw_H) (a ba sa k : Nat) (nv sg : Int32) (q : Nat → Option Nat) (f : Nat → Int32) (hk : k < 8) (fa : h a = some (.inr (3, [.ref ba, .ref sa, .int nv]))) (fba : h ba = some (.inl (cs 3, 8, .inr (.inr (.inr (.inr q)))))) (fsa : h sa = some (.inl (cs 0, 8, .inl f))) : pm l y_P_include b_P_include 3 none rm_P_include [.ref a, .int (nI k), .int sg] D cs A h (va_Qv (fun (h' : pw_H) => ∃ b ka na : Nat, ka ≠ na ∧ h b = none ∧ h ka = none ∧ h na = none ∧ h' b = some (.inr (1, [.ref ka, .ref na, .int 0])) ∧ h' ka = some (.inl (cs 0, 12, .inl (fun _ => 0))) ∧ h' na = some (.inl (cs 0, 12, .inl (fun _ => 0))) ∧ h' ba = some (.inl (cs 3, 8, .inr (.inr (.inr (.inr (va_up q k (some b))))))) ∧ h' sa = some (.inl (cs 0, 8, .inl (upd f k sg))) ∧ h' a = some (.inr (3, [.ref ba, .ref sa, .int (nv + 1)])) ∧ ext h h' [a, ba, sa]) (ww D cs A) A) 3 27 := by
  refine pm_of R_P rfl (by decide) (Nat.le_of_ble_eq_true rfl) (fun p e s m below meth c ls F hr hlk hnm hP hA hK hl => ?_)
  have hS : va_S A s.heap s.heap [] := va_S.rf
  replace hl : lv_has ls 3 [(0, .ref a), (1, .int (nI k)), (2, .int sg)] := hl
  have hx : ext h h [a, ba, sa] := ext.rf
  refine lv_aload_n F.1 F.2.1 d_P_include_0 rfl (lv_at hl 0 rfl) ?_
  refine pw_get F I_P hK.1 hP fa rfl 0 (by decide) L_P_11 (fun _ z => z) rfl d_P_include_1 ?_
  refine lv_iload_n F.1 F.2.1 d_P_include_4 rfl (lv_at hl 1 rfl) ?_
  refine pw_new (ci := 1) (fs := [.null, .null, .int 0]) F I_B ty_B k_B C_P_9 N_B Z_B hK.1 hP hS hA rfl (fun j hj => by rcases (show j = 0 ∨ j = 1 ∨ j = 2 by omega) with rfl | rfl | rfl <;> rfl) (by decide) (by decide) d_P_include_5 (fun q1 H n2 hP hS => ?_)
  have hP : pw D vwCl A (pu h q1 (.inr (1, [.null, .null, .int 0]))) H := hP
  have g5 : h q1 = none := hx.2 _ n2
  obtain ⟨h3, e4⟩ : ∃ z9 : pw_H, z9 = pu h q1 (.inr (1, [.null, .null, .int 0])) := ⟨_, rfl⟩
  rw [← e4] at hP
  have hx : ext h h3 [a, ba, sa] := by rw [e4]; exact hx.pu (Or.inr g5)
  have f6 : h3 q1 = some (.inr (1, [.null, .null, .int 0])) := by rw [e4]; exact pu_s
  refine lv_dup F.1 F.2.1 d_P_include_8 rfl ?_
  refine pw_cv (pr_I F (c_B_init l D cs A h3 q1 f6) X_P_21 rfl rfl ⟨by decide, by decide⟩ hP hA hK hS rfl hl.1 rfl (Nat.le_of_ble_eq_true rfl) d_P_include_9 ⟨by decide, by decide⟩) hS (fun hw8 H locs hq hP hS => ?_)
  obtain ⟨ka, na, kw9, jw1, jw2, jw3, jw4, jw5, jw6⟩ := hq
  have g7 : h ka = none := hx.2 _ jw1
  have g8 : h na = none := hx.2 _ jw2
  have hx : ext h hw8 [a, ba, sa] := hx.trans jw6 (fun y hy => by
    simp only [List.mem_cons, List.not_mem_nil, or_false] at hy
    rcases hy with rfl
    · exact Or.inr g5)
  have f9 : h3 ba = some (.inl (cs 3, 8, .inr (.inr (.inr (.inr q))))) := by rw [e4]; exact pu_f n2 fba
  have f10 : hw8 ba = some (.inl (cs 3, 8, .inr (.inr (.inr (.inr q))))) := jw6.1 _ _ f9 (nin1 (pu_t f9 f6 (show (308 : Nat) ≠ 1 by decide)))
  refine pw_astqN1 F hK.1 hP hS 3 1 f10 rfl jw5 rfl (k := k) hk (by decide) d_P_include_12 (fun H locs hP hS => ?_)
  have hP : pw D vwCl A (pu hw8 ba (.inl (cs 3, 8, .inr (.inr (.inr (.inr (va_up q k (some q1)))))))) H := hP
  obtain ⟨h11, e12⟩ : ∃ z9 : pw_H, z9 = pu hw8 ba (.inl (cs 3, 8, .inr (.inr (.inr (.inr (va_up q k (some q1))))))) := ⟨_, rfl⟩
  rw [← e12] at hP
  have hx : ext h h11 [a, ba, sa] := by rw [e12]; exact hx.pu (Or.inl (by simp))
  have f13 : h11 ba = some (.inl (cs 3, 8, .inr (.inr (.inr (.inr (va_up q k (some q1))))))) := by rw [e12]; exact pu_s
  refine lv_aload_n F.1 F.2.1 d_P_include_13 rfl (lv_at hl 0 rfl) ?_
  have f14 : h3 a = some (.inr (3, [.ref ba, .ref sa, .int nv])) := by rw [e4]; exact pu_f n2 fa
  have f15 : hw8 a = some (.inr (3, [.ref ba, .ref sa, .int nv])) := jw6.1 _ _ f14 (nin1 (pu_t f14 f6 (show (3 : Nat) ≠ 1 by decide)))
  have f16 : h11 a = some (.inr (3, [.ref ba, .ref sa, .int nv])) := by rw [e12]; exact pu_k f15 (pu_t f15 f10 (show (3 : Nat) ≠ 308 by decide))
  refine pw_get F I_P hK.1 hP f16 rfl 1 (by decide) L_P_17 (fun _ z => z) rfl d_P_include_14 ?_
  refine lv_iload_n F.1 F.2.1 d_P_include_17 rfl (lv_at hl 1 rfl) ?_
  refine lv_iload_n F.1 F.2.1 d_P_include_18 rfl (lv_at hl 2 rfl) ?_
  have f17 : h3 sa = some (.inl (cs 0, 8, .inl f)) := by rw [e4]; exact pu_f n2 fsa
  have f18 : hw8 sa = some (.inl (cs 0, 8, .inl f)) := jw6.1 _ _ f17 (nin1 (pu_t f17 f6 (show (108 : Nat) ≠ 1 by decide)))
  have f19 : h11 sa = some (.inl (cs 0, 8, .inl f)) := by rw [e12]; exact pu_k f18 (pu_t f18 f10 (show (108 : Nat) ≠ 308 by decide))
  refine pw_iastN F hK.1 hP hS 0 f19 rfl (k := k) hk (by decide) d_P_include_19 (fun H locs hP hS => ?_)
  have hP : pw D vwCl A (pu h11 sa (.inl (cs 0, 8, .inl (upd f k sg)))) H := hP
  obtain ⟨h20, e21⟩ : ∃ z9 : pw_H, z9 = pu h11 sa (.inl (cs 0, 8, .inl (upd f k sg))) := ⟨_, rfl⟩
  rw [← e21] at hP
  have hx : ext h h20 [a, ba, sa] := by rw [e21]; exact hx.pu (Or.inl (by simp))
  have f22 : h20 sa = some (.inl (cs 0, 8, .inl (upd f k sg))) := by rw [e21]; exact pu_s
  refine lv_aload_n F.1 F.2.1 d_P_include_20 rfl (lv_at hl 0 rfl) ?_
  refine lv_dup F.1 F.2.1 d_P_include_21 rfl ?_
  have f23 : h20 a = some (.inr (3, [.ref ba, .ref sa, .int nv])) := by rw [e21]; exact pu_k f16 (pu_t f16 f19 (show (3 : Nat) ≠ 108 by decide))
  refine pw_get F I_P hK.1 hP f23 rfl 2 (by decide) L_P_22 (fun _ z => z) rfl d_P_include_22 ?_
  refine lv_iconst (v := 1) F.1 F.2.1 d_P_include_25 (by decide) ?_
  refine lv_iadd F.1 F.2.1 d_P_include_26 ?_
  refine pw_put F I_P ty_P k_P n_P hK.1 hP hS f23 rfl 2 (by decide) L_P_22 (fun _ z => z) rfl rfl rfl (Nat.le_of_ble_eq_true rfl) d_P_include_27 (fun H locs hP hS => ?_)
  have hP : pw D vwCl A (pu h20 a (.inr (3, [.ref ba, .ref sa, .int (nv + 1)]))) H := hP
  obtain ⟨h24, e25⟩ : ∃ z9 : pw_H, z9 = pu h20 a (.inr (3, [.ref ba, .ref sa, .int (nv + 1)])) := ⟨_, rfl⟩
  rw [← e25] at hP
  have hx : ext h h24 [a, ba, sa] := by rw [e25]; exact hx.pu (Or.inl (by simp))
  have f26 : h24 a = some (.inr (3, [.ref ba, .ref sa, .int (nv + 1)])) := by rw [e25]; exact pu_s
  have f27 : h11 q1 = some (.inr (1, [.ref ka, .ref na, .int 0])) := by rw [e12]; exact pu_k jw5 (pu_t jw5 f10 (show (1 : Nat) ≠ 308 by decide))
  have f28 : h20 q1 = some (.inr (1, [.ref ka, .ref na, .int 0])) := by rw [e21]; exact pu_k f27 (pu_t f27 f19 (show (1 : Nat) ≠ 108 by decide))
  have f29 : h24 q1 = some (.inr (1, [.ref ka, .ref na, .int 0])) := by rw [e25]; exact pu_k f28 (pu_t f28 f23 (show (1 : Nat) ≠ 3 by decide))
  have f30 : h11 ka = some (.inl (cs 0, 12, .inl (fun _ => 0))) := by rw [e12]; exact pu_k jw3 (pu_t jw3 f10 (show (112 : Nat) ≠ 308 by decide))
  have f31 : h20 ka = some (.inl (cs 0, 12, .inl (fun _ => 0))) := by rw [e21]; exact pu_k f30 (pu_t f30 f19 (show (112 : Nat) ≠ 108 by decide))
  have f32 : h24 ka = some (.inl (cs 0, 12, .inl (fun _ => 0))) := by rw [e25]; exact pu_k f31 (pu_t f31 f23 (show (112 : Nat) ≠ 3 by decide))
  have f33 : h11 na = some (.inl (cs 0, 12, .inl (fun _ => 0))) := by rw [e12]; exact pu_k jw4 (pu_t jw4 f10 (show (112 : Nat) ≠ 308 by decide))
  have f34 : h20 na = some (.inl (cs 0, 12, .inl (fun _ => 0))) := by rw [e21]; exact pu_k f33 (pu_t f33 f19 (show (112 : Nat) ≠ 108 by decide))
  have f35 : h24 na = some (.inl (cs 0, 12, .inl (fun _ => 0))) := by rw [e25]; exact pu_k f34 (pu_t f34 f23 (show (112 : Nat) ≠ 3 by decide))
  have f36 : h20 ba = some (.inl (cs 3, 8, .inr (.inr (.inr (.inr (va_up q k (some q1))))))) := by rw [e21]; exact pu_k f13 (pu_t f13 f19 (show (308 : Nat) ≠ 108 by decide))
  have f37 : h24 ba = some (.inl (cs 3, 8, .inr (.inr (.inr (.inr (va_up q k (some q1))))))) := by rw [e25]; exact pu_k f36 (pu_t f36 f23 (show (308 : Nat) ≠ 3 by decide))
  have f38 : h24 sa = some (.inl (cs 0, 8, .inl (upd f k sg))) := by rw [e25]; exact pu_k f22 (pu_t f22 f23 (show (108 : Nat) ≠ 3 by decide))
  exact pw_vret F hr hlk hP hA hK hS (by decide) (by decide) d_P_include_30 ⟨q1, ka, na, kw9, g5, g7, g8, f29, f32, f35, f37, f38, f26, hx⟩
abbrev rm_Fr_init : Room := { frames := 1, cells := 0, slots := 0, locals := 16 }
set_option maxHeartbeats 4000000 in
set_option maxRecDepth 100000 in
theorem c_Fr_init (l : Launch) (D : va_G) (cs : Nat → Nat) (A : Nat → Prop) (h : pw_H) (a bo : Nat) (fa : h a = some (.inr (4, [.int 0, .int 0, .null, .int 0, .int 0]))) : pm l y_Fr_init b_Fr_init 2 none rm_Fr_init [.ref a, .ref bo] D cs A h (va_Qv (fun (h' : pw_H) => h' a = some (.inr (4, [.int 0, .int 0, .ref bo, .int 0, .int 0])) ∧ ext h h' [a]) (ww D cs A) A) 0 0 := by
  refine pm_of R_Fr rfl (by decide) (Nat.le_of_ble_eq_true rfl) (fun p e s m below meth c ls F hr hlk hnm hP hA hK hl => ?_)
  have hS : va_S A s.heap s.heap [] := va_S.rf
  replace hl : lv_has ls 2 [(0, .ref a), (1, .ref bo)] := hl
  have hx : ext h h [a] := ext.rf
  refine lv_aload_n F.1 F.2.1 d_Fr_init_0 rfl (lv_at hl 0 rfl) ?_
  refine W.objInit F.1 F.2.1 F.2.2.2.1 (F.2.2.2.2 _ O_Fr_3) (F.2.2.2.2 _ iM_obj) (F.2.2.2.2 _ co_obj) rfl (hl.1.trans F.2.2.1.symm) rfl d_Fr_init_1 (by decide) (Nat.le_of_ble_eq_true rfl) ?_
  refine W.eq (g2 := F0 m 4 ls []) (by rfl) ?_
  refine lv_aload_n F.1 F.2.1 d_Fr_init_4 rfl (lv_at hl 0 rfl) ?_
  refine lv_aload_n F.1 F.2.1 d_Fr_init_5 rfl (lv_at hl 1 rfl) ?_
  refine pw_put F I_Fr ty_Fr k_Fr n_Fr hK.1 hP hS fa rfl 2 (by decide) L_Fr_9 (fun _ z => z) rfl rfl rfl (Nat.le_of_ble_eq_true rfl) d_Fr_init_6 (fun H locs hP hS => ?_)
  have hP : pw D vwCl A (pu h a (.inr (4, [.int 0, .int 0, .ref bo, .int 0, .int 0]))) H := hP
  obtain ⟨h1, e2⟩ : ∃ z9 : pw_H, z9 = pu h a (.inr (4, [.int 0, .int 0, .ref bo, .int 0, .int 0])) := ⟨_, rfl⟩
  rw [← e2] at hP
  have hx : ext h h1 [a] := by rw [e2]; exact hx.pu (Or.inl (by simp))
  have f3 : h1 a = some (.inr (4, [.int 0, .int 0, .ref bo, .int 0, .int 0])) := by rw [e2]; exact pu_s
  exact pw_vret F hr hlk hP hA hK hS (by decide) (by decide) d_Fr_init_9 ⟨f3, hx⟩
abbrev rm_Fr_begin : Room := { frames := 0, cells := 0, slots := 0, locals := 0 }
set_option maxHeartbeats 4000000 in
set_option maxRecDepth 100000 in
theorem c_Fr_begin (l : Launch) (D : va_G) (cs : Nat → Nat) (A : Nat → Prop) (h : pw_H) (a bo : Nat) (v0 v1 v2 v3 v4 : Value) (fu lv : Int32) (fa : h a = some (.inr (4, [v0, v1, v2, v3, v4]))) : pm l y_Fr_begin b_Fr_begin 4 none rm_Fr_begin [.ref a, .int fu, .int lv, .ref bo] D cs A h (va_Qv (fun (h' : pw_H) => h' a = some (.inr (4, [.int fu, .int lv, .ref bo, .int 0, .int 0])) ∧ ext h h' [a]) (ww D cs A) A) 0 0 := by
  refine pm_of R_Fr rfl (by decide) (Nat.le_of_ble_eq_true rfl) (fun p e s m below meth c ls F hr hlk hnm hP hA hK hl => ?_)
  have hS : va_S A s.heap s.heap [] := va_S.rf
  replace hl : lv_has ls 4 [(0, .ref a), (1, .int fu), (2, .int lv), (3, .ref bo)] := hl
  have hx : ext h h [a] := ext.rf
  refine lv_aload_n F.1 F.2.1 d_Fr_begin_0 rfl (lv_at hl 0 rfl) ?_
  refine lv_iload_n F.1 F.2.1 d_Fr_begin_1 rfl (lv_at hl 1 rfl) ?_
  refine pw_put F I_Fr ty_Fr k_Fr n_Fr hK.1 hP hS fa rfl 0 (by decide) L_Fr_15 (fun _ z => z) rfl rfl rfl (Nat.le_of_ble_eq_true rfl) d_Fr_begin_2 (fun H locs hP hS => ?_)
  have hP : pw D vwCl A (pu h a (.inr (4, [.int fu, v1, v2, v3, v4]))) H := hP
  obtain ⟨h1, e2⟩ : ∃ z9 : pw_H, z9 = pu h a (.inr (4, [.int fu, v1, v2, v3, v4])) := ⟨_, rfl⟩
  rw [← e2] at hP
  have hx : ext h h1 [a] := by rw [e2]; exact hx.pu (Or.inl (by simp))
  have f3 : h1 a = some (.inr (4, [.int fu, v1, v2, v3, v4])) := by rw [e2]; exact pu_s
  refine lv_aload_n F.1 F.2.1 d_Fr_begin_5 rfl (lv_at hl 0 rfl) ?_
  refine lv_iload_n F.1 F.2.1 d_Fr_begin_6 rfl (lv_at hl 2 rfl) ?_
  refine pw_put F I_Fr ty_Fr k_Fr n_Fr hK.1 hP hS f3 rfl 1 (by decide) L_Fr_19 (fun _ z => z) rfl rfl rfl (Nat.le_of_ble_eq_true rfl) d_Fr_begin_7 (fun H locs hP hS => ?_)
  have hP : pw D vwCl A (pu h1 a (.inr (4, [.int fu, .int lv, v2, v3, v4]))) H := hP
  obtain ⟨h4, e5⟩ : ∃ z9 : pw_H, z9 = pu h1 a (.inr (4, [.int fu, .int lv, v2, v3, v4])) := ⟨_, rfl⟩
  rw [← e5] at hP
  have hx : ext h h4 [a] := by rw [e5]; exact hx.pu (Or.inl (by simp))
  have f6 : h4 a = some (.inr (4, [.int fu, .int lv, v2, v3, v4])) := by rw [e5]; exact pu_s
  refine lv_aload_n F.1 F.2.1 d_Fr_begin_10 rfl (lv_at hl 0 rfl) ?_
  refine lv_aload_n F.1 F.2.1 d_Fr_begin_11 rfl (lv_at hl 3 rfl) ?_
  refine pw_put F I_Fr ty_Fr k_Fr n_Fr hK.1 hP hS f6 rfl 2 (by decide) L_Fr_9 (fun _ z => z) rfl rfl rfl (Nat.le_of_ble_eq_true rfl) d_Fr_begin_12 (fun H locs hP hS => ?_)
  have hP : pw D vwCl A (pu h4 a (.inr (4, [.int fu, .int lv, .ref bo, v3, v4]))) H := hP
  obtain ⟨h7, e8⟩ : ∃ z9 : pw_H, z9 = pu h4 a (.inr (4, [.int fu, .int lv, .ref bo, v3, v4])) := ⟨_, rfl⟩
  rw [← e8] at hP
  have hx : ext h h7 [a] := by rw [e8]; exact hx.pu (Or.inl (by simp))
  have f9 : h7 a = some (.inr (4, [.int fu, .int lv, .ref bo, v3, v4])) := by rw [e8]; exact pu_s
  refine lv_aload_n F.1 F.2.1 d_Fr_begin_15 rfl (lv_at hl 0 rfl) ?_
  refine lv_iconst (v := 0) F.1 F.2.1 d_Fr_begin_16 (by decide) ?_
  refine pw_put F I_Fr ty_Fr k_Fr n_Fr hK.1 hP hS f9 rfl 3 (by decide) L_Fr_22 (fun _ z => z) rfl rfl rfl (Nat.le_of_ble_eq_true rfl) d_Fr_begin_17 (fun H locs hP hS => ?_)
  have hP : pw D vwCl A (pu h7 a (.inr (4, [.int fu, .int lv, .ref bo, .int 0, v4]))) H := hP
  obtain ⟨h10, e11⟩ : ∃ z9 : pw_H, z9 = pu h7 a (.inr (4, [.int fu, .int lv, .ref bo, .int 0, v4])) := ⟨_, rfl⟩
  rw [← e11] at hP
  have hx : ext h h10 [a] := by rw [e11]; exact hx.pu (Or.inl (by simp))
  have f12 : h10 a = some (.inr (4, [.int fu, .int lv, .ref bo, .int 0, v4])) := by rw [e11]; exact pu_s
  refine lv_aload_n F.1 F.2.1 d_Fr_begin_20 rfl (lv_at hl 0 rfl) ?_
  refine lv_iconst (v := 0) F.1 F.2.1 d_Fr_begin_21 (by decide) ?_
  refine pw_put F I_Fr ty_Fr k_Fr n_Fr hK.1 hP hS f12 rfl 4 (by decide) L_Fr_25 (fun _ z => z) rfl rfl rfl (Nat.le_of_ble_eq_true rfl) d_Fr_begin_22 (fun H locs hP hS => ?_)
  have hP : pw D vwCl A (pu h10 a (.inr (4, [.int fu, .int lv, .ref bo, .int 0, .int 0]))) H := hP
  obtain ⟨h13, e14⟩ : ∃ z9 : pw_H, z9 = pu h10 a (.inr (4, [.int fu, .int lv, .ref bo, .int 0, .int 0])) := ⟨_, rfl⟩
  rw [← e14] at hP
  have hx : ext h h13 [a] := by rw [e14]; exact hx.pu (Or.inl (by simp))
  have f15 : h13 a = some (.inr (4, [.int fu, .int lv, .ref bo, .int 0, .int 0])) := by rw [e14]; exact pu_s
  exact pw_vret F hr hlk hP hA hK hS (by decide) (by decide) d_Fr_begin_25 ⟨f15, hx⟩
abbrev rm_Fr_nextKind : Room := { frames := 0, cells := 0, slots := 0, locals := 0 }
set_option maxHeartbeats 4000000 in
set_option maxRecDepth 100000 in
theorem c_Fr_nextKind (l : Launch) (D : va_G) (cs : Nat → Nat) (A : Nat → Prop) (h : pw_H) (a bo ka pl z : Nat) (v0 v1 v4 w1 : Value) (f : Nat → Int32) (hpz : pl ≤ z) (hz : z ≤ 12) (fa : h a = some (.inr (4, [v0, v1, .ref bo, .int (nI pl), v4]))) (fb : h bo = some (.inr (1, [.ref ka, w1, .int (nI z)]))) (fk : h ka = some (.inl (cs 0, 12, .inl f))) : pm l y_Fr_nextKind b_Fr_nextKind 1 (some .int) rm_Fr_nextKind [.ref a] D cs A h (va_Qi (fun (r : Int32) (h' : pw_H) => h' = h ∧ r = (if pl = z then (-1) else f pl)) (ww D cs A) A) 0 0 := by
  refine pm_of R_Fr rfl (by decide) (Nat.le_of_ble_eq_true rfl) (fun p e s m below meth c ls F hr hlk hnm hP hA hK hl => ?_)
  have hS : va_S A s.heap s.heap [] := va_S.rf
  replace hl : lv_has ls 1 [(0, .ref a)] := hl
  refine lv_aload_n F.1 F.2.1 d_Fr_nextKind_0 rfl (lv_at hl 0 rfl) ?_
  refine pw_get F I_Fr hK.1 hP fa rfl 3 (by decide) L_Fr_22 (fun _ z => z) rfl d_Fr_nextKind_1 ?_
  refine lv_aload_n F.1 F.2.1 d_Fr_nextKind_4 rfl (lv_at hl 0 rfl) ?_
  refine pw_get F I_Fr hK.1 hP fa rfl 2 (by decide) L_Fr_9 (fun _ z => z) rfl d_Fr_nextKind_5 ?_
  refine pw_get F I_B hK.1 hP fb rfl 2 (by decide) L_Fr_28 (fun _ z => z) rfl d_Fr_nextKind_8 ?_
  refine lv_icmp_ge (tgt := 29) F.1 F.2.1 d_Fr_nextKind_11 (by decide) (fun c1 => ?_) (fun c1 => ?_)
  · skip
    refine lv_iconst (v := (-1)) F.1 F.2.1 d_Fr_nextKind_29 (by decide) ?_
    exact pw_iret F hr hlk hP hA hK hS (by decide) (by decide) d_Fr_nextKind_30 ⟨rfl, by rw [if_pos (by have := (nI_leI (a := z) (b := pl) (by omega) (by omega)).mp c1; omega)]⟩
  · skip
    refine lv_aload_n F.1 F.2.1 d_Fr_nextKind_14 rfl (lv_at hl 0 rfl) ?_
    refine pw_get F I_Fr hK.1 hP fa rfl 2 (by decide) L_Fr_9 (fun _ z => z) rfl d_Fr_nextKind_15 ?_
    refine pw_get F I_B hK.1 hP fb rfl 0 (by decide) L_Fr_33 (fun _ z => z) rfl d_Fr_nextKind_18 ?_
    refine lv_aload_n F.1 F.2.1 d_Fr_nextKind_21 rfl (lv_at hl 0 rfl) ?_
    refine pw_get F I_Fr hK.1 hP fa rfl 3 (by decide) L_Fr_22 (fun _ z => z) rfl d_Fr_nextKind_22 ?_
    refine pw_ialdN F hK.1 hP 0 fk rfl (k := pl) (Nat.lt_of_lt_of_le (Nat.not_le.mp (fun z9 => c1 ((nI_leI (a := z) (b := pl) (by omega) (by omega)).mpr z9))) hz) (by decide) d_Fr_nextKind_25 ?_
    refine lv_goto (tgt := 30) F.1 F.2.1 d_Fr_nextKind_26 (by decide) ?_
    exact pw_iret F hr hlk hP hA hK hS (by decide) (by decide) d_Fr_nextKind_30 ⟨rfl, by rw [if_neg (fun z9 => c1 (by rw [z9]; exact Int32.le_refl _))]⟩
abbrev rm_Fr_nextNumber : Room := { frames := 0, cells := 0, slots := 0, locals := 0 }
set_option maxHeartbeats 4000000 in
set_option maxRecDepth 100000 in
theorem c_Fr_nextNumber (l : Launch) (D : va_G) (cs : Nat → Nat) (A : Nat → Prop) (h : pw_H) (a bo na pl z : Nat) (v0 v1 v4 w1 : Value) (f : Nat → Int32) (hpz : pl ≤ z) (hz : z ≤ 12) (fa : h a = some (.inr (4, [v0, v1, .ref bo, .int (nI pl), v4]))) (fb : h bo = some (.inr (1, [w1, .ref na, .int (nI z)]))) (fk : h na = some (.inl (cs 0, 12, .inl f))) : pm l y_Fr_nextNumber b_Fr_nextNumber 1 (some .int) rm_Fr_nextNumber [.ref a] D cs A h (va_Qi (fun (r : Int32) (h' : pw_H) => h' = h ∧ r = (if pl = z then 0 else f pl)) (ww D cs A) A) 0 0 := by
  refine pm_of R_Fr rfl (by decide) (Nat.le_of_ble_eq_true rfl) (fun p e s m below meth c ls F hr hlk hnm hP hA hK hl => ?_)
  have hS : va_S A s.heap s.heap [] := va_S.rf
  replace hl : lv_has ls 1 [(0, .ref a)] := hl
  refine lv_aload_n F.1 F.2.1 d_Fr_nextNumber_0 rfl (lv_at hl 0 rfl) ?_
  refine pw_get F I_Fr hK.1 hP fa rfl 3 (by decide) L_Fr_22 (fun _ z => z) rfl d_Fr_nextNumber_1 ?_
  refine lv_aload_n F.1 F.2.1 d_Fr_nextNumber_4 rfl (lv_at hl 0 rfl) ?_
  refine pw_get F I_Fr hK.1 hP fa rfl 2 (by decide) L_Fr_9 (fun _ z => z) rfl d_Fr_nextNumber_5 ?_
  refine pw_get F I_B hK.1 hP fb rfl 2 (by decide) L_Fr_28 (fun _ z => z) rfl d_Fr_nextNumber_8 ?_
  refine lv_icmp_ge (tgt := 29) F.1 F.2.1 d_Fr_nextNumber_11 (by decide) (fun c1 => ?_) (fun c1 => ?_)
  · skip
    refine lv_iconst (v := 0) F.1 F.2.1 d_Fr_nextNumber_29 (by decide) ?_
    exact pw_iret F hr hlk hP hA hK hS (by decide) (by decide) d_Fr_nextNumber_30 ⟨rfl, by rw [if_pos (by have := (nI_leI (a := z) (b := pl) (by omega) (by omega)).mp c1; omega)]⟩
  · skip
    refine lv_aload_n F.1 F.2.1 d_Fr_nextNumber_14 rfl (lv_at hl 0 rfl) ?_
    refine pw_get F I_Fr hK.1 hP fa rfl 2 (by decide) L_Fr_9 (fun _ z => z) rfl d_Fr_nextNumber_15 ?_
    refine pw_get F I_B hK.1 hP fb rfl 1 (by decide) L_Fr_37 (fun _ z => z) rfl d_Fr_nextNumber_18 ?_
    refine lv_aload_n F.1 F.2.1 d_Fr_nextNumber_21 rfl (lv_at hl 0 rfl) ?_
    refine pw_get F I_Fr hK.1 hP fa rfl 3 (by decide) L_Fr_22 (fun _ z => z) rfl d_Fr_nextNumber_22 ?_
    refine pw_ialdN F hK.1 hP 0 fk rfl (k := pl) (Nat.lt_of_lt_of_le (Nat.not_le.mp (fun z9 => c1 ((nI_leI (a := z) (b := pl) (by omega) (by omega)).mpr z9))) hz) (by decide) d_Fr_nextNumber_25 ?_
    refine lv_goto (tgt := 30) F.1 F.2.1 d_Fr_nextNumber_26 (by decide) ?_
    exact pw_iret F hr hlk hP hA hK hS (by decide) (by decide) d_Fr_nextNumber_30 ⟨rfl, by rw [if_neg (fun z9 => c1 (by rw [z9]; exact Int32.le_refl _))]⟩
abbrev rm_Fr_repeatFrom : Room := { frames := 0, cells := 0, slots := 0, locals := 0 }
set_option maxHeartbeats 4000000 in
set_option maxRecDepth 100000 in
theorem c_Fr_repeatFrom (l : Launch) (D : va_G) (cs : Nat → Nat) (A : Nat → Prop) (h : pw_H) (a : Nat) (v0 v1 v2 : Value) (pl re n : Int32) (fa : h a = some (.inr (4, [v0, v1, v2, .int pl, .int re]))) : pm l y_Fr_repeatFrom b_Fr_repeatFrom 2 none rm_Fr_repeatFrom [.ref a, .int n] D cs A h (va_Qv (fun (h' : pw_H) => h' a = some (.inr (4, [v0, v1, v2, .int (if re < 3 then n else pl), .int (if re < 3 then re + 1 else re)])) ∧ ext h h' [a]) (ww D cs A) A) 0 0 := by
  refine pm_of R_Fr rfl (by decide) (Nat.le_of_ble_eq_true rfl) (fun p e s m below meth c ls F hr hlk hnm hP hA hK hl => ?_)
  have hS : va_S A s.heap s.heap [] := va_S.rf
  replace hl : lv_has ls 2 [(0, .ref a), (1, .int n)] := hl
  have hx : ext h h [a] := ext.rf
  refine lv_aload_n F.1 F.2.1 d_Fr_repeatFrom_0 rfl (lv_at hl 0 rfl) ?_
  refine pw_get F I_Fr hK.1 hP fa rfl 4 (by decide) L_Fr_25 (fun _ z => z) rfl d_Fr_repeatFrom_1 ?_
  refine lv_iconst (v := 3) F.1 F.2.1 d_Fr_repeatFrom_4 (by decide) ?_
  refine lv_icmp_ge (tgt := 23) F.1 F.2.1 d_Fr_repeatFrom_5 (by decide) (fun c1 => ?_) (fun c1 => ?_)
  · skip
    exact pw_vret F hr hlk hP hA hK hS (by decide) (by decide) d_Fr_repeatFrom_23 ⟨by rw [if_neg (Int32.not_lt.mpr c1), if_neg (Int32.not_lt.mpr c1)]; exact fa, hx⟩
  · skip
    refine lv_aload_n F.1 F.2.1 d_Fr_repeatFrom_8 rfl (lv_at hl 0 rfl) ?_
    refine lv_dup F.1 F.2.1 d_Fr_repeatFrom_9 rfl ?_
    refine pw_get F I_Fr hK.1 hP fa rfl 4 (by decide) L_Fr_25 (fun _ z => z) rfl d_Fr_repeatFrom_10 ?_
    refine lv_iconst (v := 1) F.1 F.2.1 d_Fr_repeatFrom_13 (by decide) ?_
    refine lv_iadd F.1 F.2.1 d_Fr_repeatFrom_14 ?_
    refine pw_put F I_Fr ty_Fr k_Fr n_Fr hK.1 hP hS fa rfl 4 (by decide) L_Fr_25 (fun _ z => z) rfl rfl rfl (Nat.le_of_ble_eq_true rfl) d_Fr_repeatFrom_15 (fun H locs hP hS => ?_)
    have hP : pw D vwCl A (pu h a (.inr (4, [v0, v1, v2, .int pl, .int (re + 1)]))) H := hP
    obtain ⟨h2, e3⟩ : ∃ z9 : pw_H, z9 = pu h a (.inr (4, [v0, v1, v2, .int pl, .int (re + 1)])) := ⟨_, rfl⟩
    rw [← e3] at hP
    have hx : ext h h2 [a] := by rw [e3]; exact hx.pu (Or.inl (by simp))
    have f4 : h2 a = some (.inr (4, [v0, v1, v2, .int pl, .int (re + 1)])) := by rw [e3]; exact pu_s
    refine lv_aload_n F.1 F.2.1 d_Fr_repeatFrom_18 rfl (lv_at hl 0 rfl) ?_
    refine lv_iload_n F.1 F.2.1 d_Fr_repeatFrom_19 rfl (lv_at hl 1 rfl) ?_
    refine pw_put F I_Fr ty_Fr k_Fr n_Fr hK.1 hP hS f4 rfl 3 (by decide) L_Fr_22 (fun _ z => z) rfl rfl rfl (Nat.le_of_ble_eq_true rfl) d_Fr_repeatFrom_20 (fun H locs hP hS => ?_)
    have hP : pw D vwCl A (pu h2 a (.inr (4, [v0, v1, v2, .int n, .int (re + 1)]))) H := hP
    obtain ⟨h5, e6⟩ : ∃ z9 : pw_H, z9 = pu h2 a (.inr (4, [v0, v1, v2, .int n, .int (re + 1)])) := ⟨_, rfl⟩
    rw [← e6] at hP
    have hx : ext h h5 [a] := by rw [e6]; exact hx.pu (Or.inl (by simp))
    have f7 : h5 a = some (.inr (4, [v0, v1, v2, .int n, .int (re + 1)])) := by rw [e6]; exact pu_s
    exact pw_vret F hr hlk hP hA hK hS (by decide) (by decide) d_Fr_repeatFrom_23 ⟨by rw [if_pos (Int32.not_le.mp c1), if_pos (Int32.not_le.mp c1)]; exact f7, hx⟩
abbrev rm_T_init : Room := { frames := 2, cells := 7, slots := 36, locals := 37 }
set_option maxHeartbeats 4000000 in
set_option maxRecDepth 100000 in
theorem c_T_init (l : Launch) (D : va_G) (cs : Nat → Nat) (A : Nat → Prop) (h : pw_H) (a bo : Nat) (fn lv : Int32) (fa : h a = some (.inr (5, [.null, .int 0, .int 0, .int 0, .int 0, .int 0, .int 0]))) : pm l y_T_init b_T_init 5 none rm_T_init [.ref a, .int fn, .int lv, .ref bo] D cs A h (va_Qv (fun (h' : pw_H) => ∃ (fa : Nat) (fr : Nat → Nat), h fa = none ∧ (∀ k, k < 6 → h (fr k) = none) ∧ (∀ i j, i < 6 → j < 6 → fr i = fr j → i = j) ∧ ∃ q : Nat → Option Nat, h' fa = some (.inl (cs 4, 6, .inr (.inr (.inr (.inr q))))) ∧ (∀ k, k < 6 → q k = some (fr k)) ∧ h' (fr 0) = some (.inr (4, [.int fn, .int lv, .ref bo, .int 0, .int 0])) ∧ (∀ k, 1 ≤ k → k < 6 → h' (fr k) = some (.inr (4, [.int 0, .int 0, .ref bo, .int 0, .int 0]))) ∧ h' a = some (.inr (5, [.ref fa, .int 1, .int lv, .int 0, .int 0, .int 0, .int 0])) ∧ ext h h' [a]) (ww D cs A) A) 7 36 := by
  refine pm_of R_T rfl (by decide) (Nat.le_of_ble_eq_true rfl) (fun p e s m below meth c ls F hr hlk hnm hP hA hK hl => ?_)
  have hS : va_S A s.heap s.heap [] := va_S.rf
  replace hl : lv_has ls 5 [(0, .ref a), (1, .int fn), (2, .int lv), (3, .ref bo)] := hl
  have hx : ext h h [a] := ext.rf
  refine lv_aload_n F.1 F.2.1 d_T_init_0 rfl (lv_at hl 0 rfl) ?_
  refine W.objInit F.1 F.2.1 F.2.2.2.1 (F.2.2.2.2 _ O_T_3) (F.2.2.2.2 _ iM_obj) (F.2.2.2.2 _ co_obj) rfl (hl.1.trans F.2.2.1.symm) rfl d_T_init_1 (by decide) (Nat.le_of_ble_eq_true rfl) ?_
  refine W.eq (g2 := F0 m 4 ls []) (by rfl) ?_
  refine lv_aload_n F.1 F.2.1 d_T_init_4 rfl (lv_at hl 0 rfl) ?_
  refine lv_iload_n F.1 F.2.1 d_T_init_5 rfl (lv_at hl 2 rfl) ?_
  refine pw_put F I_T ty_T k_T n_T hK.1 hP hS fa rfl 2 (by decide) L_T_9 (fun _ z => z) rfl rfl rfl (Nat.le_of_ble_eq_true rfl) d_T_init_6 (fun H locs hP hS => ?_)
  have hP : pw D vwCl A (pu h a (.inr (5, [.null, .int 0, .int lv, .int 0, .int 0, .int 0, .int 0]))) H := hP
  obtain ⟨h1, e2⟩ : ∃ z9 : pw_H, z9 = pu h a (.inr (5, [.null, .int 0, .int lv, .int 0, .int 0, .int 0, .int 0])) := ⟨_, rfl⟩
  rw [← e2] at hP
  have hx : ext h h1 [a] := by rw [e2]; exact hx.pu (Or.inl (by simp))
  have f3 : h1 a = some (.inr (5, [.null, .int 0, .int lv, .int 0, .int 0, .int 0, .int 0])) := by rw [e2]; exact pu_s
  refine lv_aload_n F.1 F.2.1 d_T_init_9 rfl (lv_at hl 0 rfl) ?_
  refine lv_bipush (v := 6) F.1 F.2.1 d_T_init_10 (by decide) ?_
  refine pw_newq (N' := 6) F C_T_15 (hK.2.2.2.2.2.2.2.2 _ (by decide)) hK.1 hP hS hA 4 rfl (by decide) (by decide) (by decide) (by decide) (by decide) d_T_init_12 (fun q4 H n5 hP hS => ?_)
  have hP : pw D vwCl A (pu h1 q4 (.inl (cs 4, 6, .inr (.inr (.inr (.inr (fun _ => none))))))) H := hP
  have g8 : h q4 = none := hx.2 _ n5
  obtain ⟨h6, e7⟩ : ∃ z9 : pw_H, z9 = pu h1 q4 (.inl (cs 4, 6, .inr (.inr (.inr (.inr (fun _ => none)))))) := ⟨_, rfl⟩
  rw [← e7] at hP
  have hx : ext h h6 [a] := by rw [e7]; exact hx.pu (Or.inr g8)
  have f9 : h6 q4 = some (.inl (cs 4, 6, .inr (.inr (.inr (.inr (fun _ => none)))))) := by rw [e7]; exact pu_s
  have f10 : h6 a = some (.inr (5, [.null, .int 0, .int lv, .int 0, .int 0, .int 0, .int 0])) := by rw [e7]; exact pu_f n5 f3
  refine pw_putF F I_T ty_T k_T n_T hK.1 hP hS f10 rfl 0 (by decide) L_T_17 (fun _ z => z) rfl hnm rfl rfl rfl (Nat.le_of_ble_eq_true rfl) d_T_init_15 (fun H locs hP hS => ?_)
  have hP : pw D vwCl A (pu h6 a (.inr (5, [.ref q4, .int 0, .int lv, .int 0, .int 0, .int 0, .int 0]))) H := hP
  obtain ⟨h11, e12⟩ : ∃ z9 : pw_H, z9 = pu h6 a (.inr (5, [.ref q4, .int 0, .int lv, .int 0, .int 0, .int 0, .int 0])) := ⟨_, rfl⟩
  rw [← e12] at hP
  have hx : ext h h11 [a] := by rw [e12]; exact hx.pu (Or.inl (by simp))
  have f13 : h11 a = some (.inr (5, [.ref q4, .int 0, .int lv, .int 0, .int 0, .int 0, .int 0])) := by rw [e12]; exact pu_s
  refine lv_iconst (v := 0) F.1 F.2.1 d_T_init_18 (by decide) ?_
  refine lv_istore F.1 F.2.1 d_T_init_19 hl (by decide) rfl (fun ls hl => ?_)
  replace hl : lv_has ls 5 [(4, .int 0), (0, .ref a), (1, .int fn), (2, .int lv), (3, .ref bo)] := hl
  refine lv_iload F.1 F.2.1 d_T_init_21 (lv_at hl 0 rfl) ?_
  refine lv_bipush (v := 6) F.1 F.2.1 d_T_init_23 (by decide) ?_
  refine lv_icmp_ge (tgt := 49) F.1 F.2.1 d_T_init_25 (by decide) (fun c14 => absurd c14 (by decide)) (fun c14 => ?_)
  refine lv_aload_n F.1 F.2.1 d_T_init_28 rfl (lv_at hl 1 rfl) ?_
  refine pw_get F I_T hK.1 hP f13 rfl 0 (by decide) L_T_17 (fun _ z => z) rfl d_T_init_29 ?_
  refine lv_iload F.1 F.2.1 d_T_init_32 (lv_at hl 0 rfl) ?_
  refine pw_new (ci := 4) (fs := [.int 0, .int 0, .null, .int 0, .int 0]) F I_Fr ty_Fr k_Fr C_T_15 N_Fr Z_Fr hK.1 hP hS hA rfl (fun j hj => by rcases (show j = 0 ∨ j = 1 ∨ j = 2 ∨ j = 3 ∨ j = 4 by omega) with rfl | rfl | rfl | rfl | rfl <;> rfl) (by decide) (by decide) d_T_init_34 (fun q15 H n16 hP hS => ?_)
  have hP : pw D vwCl A (pu h11 q15 (.inr (4, [.int 0, .int 0, .null, .int 0, .int 0]))) H := hP
  have g19 : h q15 = none := hx.2 _ n16
  obtain ⟨h17, e18⟩ : ∃ z9 : pw_H, z9 = pu h11 q15 (.inr (4, [.int 0, .int 0, .null, .int 0, .int 0])) := ⟨_, rfl⟩
  rw [← e18] at hP
  have hx : ext h h17 [a] := by rw [e18]; exact hx.pu (Or.inr g19)
  have f20 : h17 q15 = some (.inr (4, [.int 0, .int 0, .null, .int 0, .int 0])) := by rw [e18]; exact pu_s
  refine lv_dup F.1 F.2.1 d_T_init_37 rfl ?_
  refine lv_aload_n F.1 F.2.1 d_T_init_38 rfl (lv_at hl 4 rfl) ?_
  refine pw_cv (pr_I F (c_Fr_init l D cs A h17 q15 bo f20) X_T_21 rfl rfl ⟨by decide, by decide⟩ hP hA hK hS rfl hl.1 rfl (Nat.le_of_ble_eq_true rfl) d_T_init_39 ⟨by decide, by decide⟩) hS (fun h21 H locs hq hP hS => ?_)
  obtain ⟨j22, j23⟩ := hq
  have hx : ext h h21 [a] := hx.trans j23 (fun y hy => by
    simp only [List.mem_cons, List.not_mem_nil, or_false] at hy
    rcases hy with rfl
    · exact Or.inr g19)
  have f24 : h11 q4 = some (.inl (cs 4, 6, .inr (.inr (.inr (.inr (fun _ => none)))))) := by rw [e12]; exact pu_k f9 (pu_t f9 f10 (show (306 : Nat) ≠ 5 by decide))
  have f25 : h17 q4 = some (.inl (cs 4, 6, .inr (.inr (.inr (.inr (fun _ => none)))))) := by rw [e18]; exact pu_f n16 f24
  have f26 : h21 q4 = some (.inl (cs 4, 6, .inr (.inr (.inr (.inr (fun _ => none)))))) := j23.1 _ _ f25 (nin1 (pu_t f25 f20 (show (306 : Nat) ≠ 4 by decide)))
  refine W.eq (g2 := F0 m 42 ls [.ref q15, .int (nI 0), .ref q4]) (by rw [(show (0 : Int32) = nI 0 by decide)]) ?_
  refine pw_astqN1 F hK.1 hP hS 4 4 f26 rfl j22 rfl (k := 0) (by decide) (by decide) d_T_init_42 (fun H locs hP hS => ?_)
  have hP : pw D vwCl A (pu h21 q4 (.inl (cs 4, 6, .inr (.inr (.inr (.inr (va_up (fun _ => none) 0 (some q15)))))))) H := hP
  obtain ⟨h27, e28⟩ : ∃ z9 : pw_H, z9 = pu h21 q4 (.inl (cs 4, 6, .inr (.inr (.inr (.inr (va_up (fun _ => none) 0 (some q15))))))) := ⟨_, rfl⟩
  rw [← e28] at hP
  have hx : ext h h27 [a] := by rw [e28]; exact hx.pu (Or.inr g8)
  have f29 : h27 q4 = some (.inl (cs 4, 6, .inr (.inr (.inr (.inr (va_up (fun _ => none) 0 (some q15))))))) := by rw [e28]; exact pu_s
  refine lv_iinc (k := 0) (v := 1) F.1 F.2.1 d_T_init_43 hl rfl (by decide) (by decide) rfl (fun ls hl => ?_)
  replace hl : lv_has ls 5 [(4, .int 1), (0, .ref a), (1, .int fn), (2, .int lv), (3, .ref bo)] := hl
  refine lv_goto (tgt := 21) F.1 F.2.1 d_T_init_46 (by decide) ?_
  refine lv_iload F.1 F.2.1 d_T_init_21 (lv_at hl 0 rfl) ?_
  refine lv_bipush (v := 6) F.1 F.2.1 d_T_init_23 (by decide) ?_
  refine lv_icmp_ge (tgt := 49) F.1 F.2.1 d_T_init_25 (by decide) (fun c30 => absurd c30 (by decide)) (fun c30 => ?_)
  refine lv_aload_n F.1 F.2.1 d_T_init_28 rfl (lv_at hl 1 rfl) ?_
  have f31 : h17 a = some (.inr (5, [.ref q4, .int 0, .int lv, .int 0, .int 0, .int 0, .int 0])) := by rw [e18]; exact pu_f n16 f13
  have f32 : h21 a = some (.inr (5, [.ref q4, .int 0, .int lv, .int 0, .int 0, .int 0, .int 0])) := j23.1 _ _ f31 (nin1 (pu_t f31 f20 (show (5 : Nat) ≠ 4 by decide)))
  have f33 : h27 a = some (.inr (5, [.ref q4, .int 0, .int lv, .int 0, .int 0, .int 0, .int 0])) := by rw [e28]; exact pu_k f32 (pu_t f32 f26 (show (5 : Nat) ≠ 306 by decide))
  refine pw_get F I_T hK.1 hP f33 rfl 0 (by decide) L_T_17 (fun _ z => z) rfl d_T_init_29 ?_
  refine lv_iload F.1 F.2.1 d_T_init_32 (lv_at hl 0 rfl) ?_
  refine pw_new (ci := 4) (fs := [.int 0, .int 0, .null, .int 0, .int 0]) F I_Fr ty_Fr k_Fr C_T_15 N_Fr Z_Fr hK.1 hP hS hA rfl (fun j hj => by rcases (show j = 0 ∨ j = 1 ∨ j = 2 ∨ j = 3 ∨ j = 4 by omega) with rfl | rfl | rfl | rfl | rfl <;> rfl) (by decide) (by decide) d_T_init_34 (fun q34 H n35 hP hS => ?_)
  have f36 : h27 q15 = some (.inr (4, [.int 0, .int 0, .ref bo, .int 0, .int 0])) := by rw [e28]; exact pu_k j22 (pu_t j22 f26 (show (4 : Nat) ≠ 306 by decide))
  have k37 : q15 ≠ q34 := none_ne f36 n35
  have hP : pw D vwCl A (pu h27 q34 (.inr (4, [.int 0, .int 0, .null, .int 0, .int 0]))) H := hP
  have g40 : h q34 = none := hx.2 _ n35
  obtain ⟨h38, e39⟩ : ∃ z9 : pw_H, z9 = pu h27 q34 (.inr (4, [.int 0, .int 0, .null, .int 0, .int 0])) := ⟨_, rfl⟩
  rw [← e39] at hP
  have hx : ext h h38 [a] := by rw [e39]; exact hx.pu (Or.inr g40)
  have f41 : h38 q34 = some (.inr (4, [.int 0, .int 0, .null, .int 0, .int 0])) := by rw [e39]; exact pu_s
  refine lv_dup F.1 F.2.1 d_T_init_37 rfl ?_
  refine lv_aload_n F.1 F.2.1 d_T_init_38 rfl (lv_at hl 4 rfl) ?_
  refine pw_cv (pr_I F (c_Fr_init l D cs A h38 q34 bo f41) X_T_21 rfl rfl ⟨by decide, by decide⟩ hP hA hK hS rfl hl.1 rfl (Nat.le_of_ble_eq_true rfl) d_T_init_39 ⟨by decide, by decide⟩) hS (fun h42 H locs hq hP hS => ?_)
  obtain ⟨j43, j44⟩ := hq
  have hx : ext h h42 [a] := hx.trans j44 (fun y hy => by
    simp only [List.mem_cons, List.not_mem_nil, or_false] at hy
    rcases hy with rfl
    · exact Or.inr g40)
  have f45 : h38 q4 = some (.inl (cs 4, 6, .inr (.inr (.inr (.inr (va_up (fun _ => none) 0 (some q15))))))) := by rw [e39]; exact pu_f n35 f29
  have f46 : h42 q4 = some (.inl (cs 4, 6, .inr (.inr (.inr (.inr (va_up (fun _ => none) 0 (some q15))))))) := j44.1 _ _ f45 (nin1 (pu_t f45 f41 (show (306 : Nat) ≠ 4 by decide)))
  refine W.eq (g2 := F0 m 42 ls [.ref q34, .int (nI 1), .ref q4]) (by rw [(show (1 : Int32) = nI 1 by decide)]) ?_
  refine pw_astqN1 F hK.1 hP hS 4 4 f46 rfl j43 rfl (k := 1) (by decide) (by decide) d_T_init_42 (fun H locs hP hS => ?_)
  have hP : pw D vwCl A (pu h42 q4 (.inl (cs 4, 6, .inr (.inr (.inr (.inr (va_up (va_up (fun _ => none) 0 (some q15)) 1 (some q34)))))))) H := hP
  obtain ⟨h47, e48⟩ : ∃ z9 : pw_H, z9 = pu h42 q4 (.inl (cs 4, 6, .inr (.inr (.inr (.inr (va_up (va_up (fun _ => none) 0 (some q15)) 1 (some q34))))))) := ⟨_, rfl⟩
  rw [← e48] at hP
  have hx : ext h h47 [a] := by rw [e48]; exact hx.pu (Or.inr g8)
  have f49 : h47 q4 = some (.inl (cs 4, 6, .inr (.inr (.inr (.inr (va_up (va_up (fun _ => none) 0 (some q15)) 1 (some q34))))))) := by rw [e48]; exact pu_s
  refine lv_iinc (k := 0) (v := 2) F.1 F.2.1 d_T_init_43 hl rfl (by decide) (by decide) rfl (fun ls hl => ?_)
  replace hl : lv_has ls 5 [(4, .int 2), (0, .ref a), (1, .int fn), (2, .int lv), (3, .ref bo)] := hl
  refine lv_goto (tgt := 21) F.1 F.2.1 d_T_init_46 (by decide) ?_
  refine lv_iload F.1 F.2.1 d_T_init_21 (lv_at hl 0 rfl) ?_
  refine lv_bipush (v := 6) F.1 F.2.1 d_T_init_23 (by decide) ?_
  refine lv_icmp_ge (tgt := 49) F.1 F.2.1 d_T_init_25 (by decide) (fun c50 => absurd c50 (by decide)) (fun c50 => ?_)
  refine lv_aload_n F.1 F.2.1 d_T_init_28 rfl (lv_at hl 1 rfl) ?_
  have f51 : h38 a = some (.inr (5, [.ref q4, .int 0, .int lv, .int 0, .int 0, .int 0, .int 0])) := by rw [e39]; exact pu_f n35 f33
  have f52 : h42 a = some (.inr (5, [.ref q4, .int 0, .int lv, .int 0, .int 0, .int 0, .int 0])) := j44.1 _ _ f51 (nin1 (pu_t f51 f41 (show (5 : Nat) ≠ 4 by decide)))
  have f53 : h47 a = some (.inr (5, [.ref q4, .int 0, .int lv, .int 0, .int 0, .int 0, .int 0])) := by rw [e48]; exact pu_k f52 (pu_t f52 f46 (show (5 : Nat) ≠ 306 by decide))
  refine pw_get F I_T hK.1 hP f53 rfl 0 (by decide) L_T_17 (fun _ z => z) rfl d_T_init_29 ?_
  refine lv_iload F.1 F.2.1 d_T_init_32 (lv_at hl 0 rfl) ?_
  refine pw_new (ci := 4) (fs := [.int 0, .int 0, .null, .int 0, .int 0]) F I_Fr ty_Fr k_Fr C_T_15 N_Fr Z_Fr hK.1 hP hS hA rfl (fun j hj => by rcases (show j = 0 ∨ j = 1 ∨ j = 2 ∨ j = 3 ∨ j = 4 by omega) with rfl | rfl | rfl | rfl | rfl <;> rfl) (by decide) (by decide) d_T_init_34 (fun q54 H n55 hP hS => ?_)
  have f56 : h38 q15 = some (.inr (4, [.int 0, .int 0, .ref bo, .int 0, .int 0])) := by rw [e39]; exact pu_f n35 f36
  have f57 : h42 q15 = some (.inr (4, [.int 0, .int 0, .ref bo, .int 0, .int 0])) := j44.1 _ _ f56 (nin1 k37)
  have f58 : h47 q15 = some (.inr (4, [.int 0, .int 0, .ref bo, .int 0, .int 0])) := by rw [e48]; exact pu_k f57 (pu_t f57 f46 (show (4 : Nat) ≠ 306 by decide))
  have k59 : q15 ≠ q54 := none_ne f58 n55
  have f60 : h47 q34 = some (.inr (4, [.int 0, .int 0, .ref bo, .int 0, .int 0])) := by rw [e48]; exact pu_k j43 (pu_t j43 f46 (show (4 : Nat) ≠ 306 by decide))
  have k61 : q34 ≠ q54 := none_ne f60 n55
  have hP : pw D vwCl A (pu h47 q54 (.inr (4, [.int 0, .int 0, .null, .int 0, .int 0]))) H := hP
  have g64 : h q54 = none := hx.2 _ n55
  obtain ⟨h62, e63⟩ : ∃ z9 : pw_H, z9 = pu h47 q54 (.inr (4, [.int 0, .int 0, .null, .int 0, .int 0])) := ⟨_, rfl⟩
  rw [← e63] at hP
  have hx : ext h h62 [a] := by rw [e63]; exact hx.pu (Or.inr g64)
  have f65 : h62 q54 = some (.inr (4, [.int 0, .int 0, .null, .int 0, .int 0])) := by rw [e63]; exact pu_s
  refine lv_dup F.1 F.2.1 d_T_init_37 rfl ?_
  refine lv_aload_n F.1 F.2.1 d_T_init_38 rfl (lv_at hl 4 rfl) ?_
  refine pw_cv (pr_I F (c_Fr_init l D cs A h62 q54 bo f65) X_T_21 rfl rfl ⟨by decide, by decide⟩ hP hA hK hS rfl hl.1 rfl (Nat.le_of_ble_eq_true rfl) d_T_init_39 ⟨by decide, by decide⟩) hS (fun h66 H locs hq hP hS => ?_)
  obtain ⟨j67, j68⟩ := hq
  have hx : ext h h66 [a] := hx.trans j68 (fun y hy => by
    simp only [List.mem_cons, List.not_mem_nil, or_false] at hy
    rcases hy with rfl
    · exact Or.inr g64)
  have f69 : h62 q4 = some (.inl (cs 4, 6, .inr (.inr (.inr (.inr (va_up (va_up (fun _ => none) 0 (some q15)) 1 (some q34))))))) := by rw [e63]; exact pu_f n55 f49
  have f70 : h66 q4 = some (.inl (cs 4, 6, .inr (.inr (.inr (.inr (va_up (va_up (fun _ => none) 0 (some q15)) 1 (some q34))))))) := j68.1 _ _ f69 (nin1 (pu_t f69 f65 (show (306 : Nat) ≠ 4 by decide)))
  refine W.eq (g2 := F0 m 42 ls [.ref q54, .int (nI 2), .ref q4]) (by rw [(show (2 : Int32) = nI 2 by decide)]) ?_
  refine pw_astqN1 F hK.1 hP hS 4 4 f70 rfl j67 rfl (k := 2) (by decide) (by decide) d_T_init_42 (fun H locs hP hS => ?_)
  have hP : pw D vwCl A (pu h66 q4 (.inl (cs 4, 6, .inr (.inr (.inr (.inr (va_up (va_up (va_up (fun _ => none) 0 (some q15)) 1 (some q34)) 2 (some q54)))))))) H := hP
  obtain ⟨h71, e72⟩ : ∃ z9 : pw_H, z9 = pu h66 q4 (.inl (cs 4, 6, .inr (.inr (.inr (.inr (va_up (va_up (va_up (fun _ => none) 0 (some q15)) 1 (some q34)) 2 (some q54))))))) := ⟨_, rfl⟩
  rw [← e72] at hP
  have hx : ext h h71 [a] := by rw [e72]; exact hx.pu (Or.inr g8)
  have f73 : h71 q4 = some (.inl (cs 4, 6, .inr (.inr (.inr (.inr (va_up (va_up (va_up (fun _ => none) 0 (some q15)) 1 (some q34)) 2 (some q54))))))) := by rw [e72]; exact pu_s
  refine lv_iinc (k := 0) (v := 3) F.1 F.2.1 d_T_init_43 hl rfl (by decide) (by decide) rfl (fun ls hl => ?_)
  replace hl : lv_has ls 5 [(4, .int 3), (0, .ref a), (1, .int fn), (2, .int lv), (3, .ref bo)] := hl
  refine lv_goto (tgt := 21) F.1 F.2.1 d_T_init_46 (by decide) ?_
  refine lv_iload F.1 F.2.1 d_T_init_21 (lv_at hl 0 rfl) ?_
  refine lv_bipush (v := 6) F.1 F.2.1 d_T_init_23 (by decide) ?_
  refine lv_icmp_ge (tgt := 49) F.1 F.2.1 d_T_init_25 (by decide) (fun c74 => absurd c74 (by decide)) (fun c74 => ?_)
  refine lv_aload_n F.1 F.2.1 d_T_init_28 rfl (lv_at hl 1 rfl) ?_
  have f75 : h62 a = some (.inr (5, [.ref q4, .int 0, .int lv, .int 0, .int 0, .int 0, .int 0])) := by rw [e63]; exact pu_f n55 f53
  have f76 : h66 a = some (.inr (5, [.ref q4, .int 0, .int lv, .int 0, .int 0, .int 0, .int 0])) := j68.1 _ _ f75 (nin1 (pu_t f75 f65 (show (5 : Nat) ≠ 4 by decide)))
  have f77 : h71 a = some (.inr (5, [.ref q4, .int 0, .int lv, .int 0, .int 0, .int 0, .int 0])) := by rw [e72]; exact pu_k f76 (pu_t f76 f70 (show (5 : Nat) ≠ 306 by decide))
  refine pw_get F I_T hK.1 hP f77 rfl 0 (by decide) L_T_17 (fun _ z => z) rfl d_T_init_29 ?_
  refine lv_iload F.1 F.2.1 d_T_init_32 (lv_at hl 0 rfl) ?_
  refine pw_new (ci := 4) (fs := [.int 0, .int 0, .null, .int 0, .int 0]) F I_Fr ty_Fr k_Fr C_T_15 N_Fr Z_Fr hK.1 hP hS hA rfl (fun j hj => by rcases (show j = 0 ∨ j = 1 ∨ j = 2 ∨ j = 3 ∨ j = 4 by omega) with rfl | rfl | rfl | rfl | rfl <;> rfl) (by decide) (by decide) d_T_init_34 (fun q78 H n79 hP hS => ?_)
  have f80 : h62 q15 = some (.inr (4, [.int 0, .int 0, .ref bo, .int 0, .int 0])) := by rw [e63]; exact pu_f n55 f58
  have f81 : h66 q15 = some (.inr (4, [.int 0, .int 0, .ref bo, .int 0, .int 0])) := j68.1 _ _ f80 (nin1 k59)
  have f82 : h71 q15 = some (.inr (4, [.int 0, .int 0, .ref bo, .int 0, .int 0])) := by rw [e72]; exact pu_k f81 (pu_t f81 f70 (show (4 : Nat) ≠ 306 by decide))
  have k83 : q15 ≠ q78 := none_ne f82 n79
  have f84 : h62 q34 = some (.inr (4, [.int 0, .int 0, .ref bo, .int 0, .int 0])) := by rw [e63]; exact pu_f n55 f60
  have f85 : h66 q34 = some (.inr (4, [.int 0, .int 0, .ref bo, .int 0, .int 0])) := j68.1 _ _ f84 (nin1 k61)
  have f86 : h71 q34 = some (.inr (4, [.int 0, .int 0, .ref bo, .int 0, .int 0])) := by rw [e72]; exact pu_k f85 (pu_t f85 f70 (show (4 : Nat) ≠ 306 by decide))
  have k87 : q34 ≠ q78 := none_ne f86 n79
  have f88 : h71 q54 = some (.inr (4, [.int 0, .int 0, .ref bo, .int 0, .int 0])) := by rw [e72]; exact pu_k j67 (pu_t j67 f70 (show (4 : Nat) ≠ 306 by decide))
  have k89 : q54 ≠ q78 := none_ne f88 n79
  have hP : pw D vwCl A (pu h71 q78 (.inr (4, [.int 0, .int 0, .null, .int 0, .int 0]))) H := hP
  have g92 : h q78 = none := hx.2 _ n79
  obtain ⟨h90, e91⟩ : ∃ z9 : pw_H, z9 = pu h71 q78 (.inr (4, [.int 0, .int 0, .null, .int 0, .int 0])) := ⟨_, rfl⟩
  rw [← e91] at hP
  have hx : ext h h90 [a] := by rw [e91]; exact hx.pu (Or.inr g92)
  have f93 : h90 q78 = some (.inr (4, [.int 0, .int 0, .null, .int 0, .int 0])) := by rw [e91]; exact pu_s
  refine lv_dup F.1 F.2.1 d_T_init_37 rfl ?_
  refine lv_aload_n F.1 F.2.1 d_T_init_38 rfl (lv_at hl 4 rfl) ?_
  refine pw_cv (pr_I F (c_Fr_init l D cs A h90 q78 bo f93) X_T_21 rfl rfl ⟨by decide, by decide⟩ hP hA hK hS rfl hl.1 rfl (Nat.le_of_ble_eq_true rfl) d_T_init_39 ⟨by decide, by decide⟩) hS (fun h94 H locs hq hP hS => ?_)
  obtain ⟨j95, j96⟩ := hq
  have hx : ext h h94 [a] := hx.trans j96 (fun y hy => by
    simp only [List.mem_cons, List.not_mem_nil, or_false] at hy
    rcases hy with rfl
    · exact Or.inr g92)
  have f97 : h90 q4 = some (.inl (cs 4, 6, .inr (.inr (.inr (.inr (va_up (va_up (va_up (fun _ => none) 0 (some q15)) 1 (some q34)) 2 (some q54))))))) := by rw [e91]; exact pu_f n79 f73
  have f98 : h94 q4 = some (.inl (cs 4, 6, .inr (.inr (.inr (.inr (va_up (va_up (va_up (fun _ => none) 0 (some q15)) 1 (some q34)) 2 (some q54))))))) := j96.1 _ _ f97 (nin1 (pu_t f97 f93 (show (306 : Nat) ≠ 4 by decide)))
  refine W.eq (g2 := F0 m 42 ls [.ref q78, .int (nI 3), .ref q4]) (by rw [(show (3 : Int32) = nI 3 by decide)]) ?_
  refine pw_astqN1 F hK.1 hP hS 4 4 f98 rfl j95 rfl (k := 3) (by decide) (by decide) d_T_init_42 (fun H locs hP hS => ?_)
  have hP : pw D vwCl A (pu h94 q4 (.inl (cs 4, 6, .inr (.inr (.inr (.inr (va_up (va_up (va_up (va_up (fun _ => none) 0 (some q15)) 1 (some q34)) 2 (some q54)) 3 (some q78)))))))) H := hP
  obtain ⟨h99, e100⟩ : ∃ z9 : pw_H, z9 = pu h94 q4 (.inl (cs 4, 6, .inr (.inr (.inr (.inr (va_up (va_up (va_up (va_up (fun _ => none) 0 (some q15)) 1 (some q34)) 2 (some q54)) 3 (some q78))))))) := ⟨_, rfl⟩
  rw [← e100] at hP
  have hx : ext h h99 [a] := by rw [e100]; exact hx.pu (Or.inr g8)
  have f101 : h99 q4 = some (.inl (cs 4, 6, .inr (.inr (.inr (.inr (va_up (va_up (va_up (va_up (fun _ => none) 0 (some q15)) 1 (some q34)) 2 (some q54)) 3 (some q78))))))) := by rw [e100]; exact pu_s
  refine lv_iinc (k := 0) (v := 4) F.1 F.2.1 d_T_init_43 hl rfl (by decide) (by decide) rfl (fun ls hl => ?_)
  replace hl : lv_has ls 5 [(4, .int 4), (0, .ref a), (1, .int fn), (2, .int lv), (3, .ref bo)] := hl
  refine lv_goto (tgt := 21) F.1 F.2.1 d_T_init_46 (by decide) ?_
  refine lv_iload F.1 F.2.1 d_T_init_21 (lv_at hl 0 rfl) ?_
  refine lv_bipush (v := 6) F.1 F.2.1 d_T_init_23 (by decide) ?_
  refine lv_icmp_ge (tgt := 49) F.1 F.2.1 d_T_init_25 (by decide) (fun c102 => absurd c102 (by decide)) (fun c102 => ?_)
  refine lv_aload_n F.1 F.2.1 d_T_init_28 rfl (lv_at hl 1 rfl) ?_
  have f103 : h90 a = some (.inr (5, [.ref q4, .int 0, .int lv, .int 0, .int 0, .int 0, .int 0])) := by rw [e91]; exact pu_f n79 f77
  have f104 : h94 a = some (.inr (5, [.ref q4, .int 0, .int lv, .int 0, .int 0, .int 0, .int 0])) := j96.1 _ _ f103 (nin1 (pu_t f103 f93 (show (5 : Nat) ≠ 4 by decide)))
  have f105 : h99 a = some (.inr (5, [.ref q4, .int 0, .int lv, .int 0, .int 0, .int 0, .int 0])) := by rw [e100]; exact pu_k f104 (pu_t f104 f98 (show (5 : Nat) ≠ 306 by decide))
  refine pw_get F I_T hK.1 hP f105 rfl 0 (by decide) L_T_17 (fun _ z => z) rfl d_T_init_29 ?_
  refine lv_iload F.1 F.2.1 d_T_init_32 (lv_at hl 0 rfl) ?_
  refine pw_new (ci := 4) (fs := [.int 0, .int 0, .null, .int 0, .int 0]) F I_Fr ty_Fr k_Fr C_T_15 N_Fr Z_Fr hK.1 hP hS hA rfl (fun j hj => by rcases (show j = 0 ∨ j = 1 ∨ j = 2 ∨ j = 3 ∨ j = 4 by omega) with rfl | rfl | rfl | rfl | rfl <;> rfl) (by decide) (by decide) d_T_init_34 (fun q106 H n107 hP hS => ?_)
  have f108 : h90 q15 = some (.inr (4, [.int 0, .int 0, .ref bo, .int 0, .int 0])) := by rw [e91]; exact pu_f n79 f82
  have f109 : h94 q15 = some (.inr (4, [.int 0, .int 0, .ref bo, .int 0, .int 0])) := j96.1 _ _ f108 (nin1 k83)
  have f110 : h99 q15 = some (.inr (4, [.int 0, .int 0, .ref bo, .int 0, .int 0])) := by rw [e100]; exact pu_k f109 (pu_t f109 f98 (show (4 : Nat) ≠ 306 by decide))
  have k111 : q15 ≠ q106 := none_ne f110 n107
  have f112 : h90 q34 = some (.inr (4, [.int 0, .int 0, .ref bo, .int 0, .int 0])) := by rw [e91]; exact pu_f n79 f86
  have f113 : h94 q34 = some (.inr (4, [.int 0, .int 0, .ref bo, .int 0, .int 0])) := j96.1 _ _ f112 (nin1 k87)
  have f114 : h99 q34 = some (.inr (4, [.int 0, .int 0, .ref bo, .int 0, .int 0])) := by rw [e100]; exact pu_k f113 (pu_t f113 f98 (show (4 : Nat) ≠ 306 by decide))
  have k115 : q34 ≠ q106 := none_ne f114 n107
  have f116 : h90 q54 = some (.inr (4, [.int 0, .int 0, .ref bo, .int 0, .int 0])) := by rw [e91]; exact pu_f n79 f88
  have f117 : h94 q54 = some (.inr (4, [.int 0, .int 0, .ref bo, .int 0, .int 0])) := j96.1 _ _ f116 (nin1 k89)
  have f118 : h99 q54 = some (.inr (4, [.int 0, .int 0, .ref bo, .int 0, .int 0])) := by rw [e100]; exact pu_k f117 (pu_t f117 f98 (show (4 : Nat) ≠ 306 by decide))
  have k119 : q54 ≠ q106 := none_ne f118 n107
  have f120 : h99 q78 = some (.inr (4, [.int 0, .int 0, .ref bo, .int 0, .int 0])) := by rw [e100]; exact pu_k j95 (pu_t j95 f98 (show (4 : Nat) ≠ 306 by decide))
  have k121 : q78 ≠ q106 := none_ne f120 n107
  have hP : pw D vwCl A (pu h99 q106 (.inr (4, [.int 0, .int 0, .null, .int 0, .int 0]))) H := hP
  have g124 : h q106 = none := hx.2 _ n107
  obtain ⟨h122, e123⟩ : ∃ z9 : pw_H, z9 = pu h99 q106 (.inr (4, [.int 0, .int 0, .null, .int 0, .int 0])) := ⟨_, rfl⟩
  rw [← e123] at hP
  have hx : ext h h122 [a] := by rw [e123]; exact hx.pu (Or.inr g124)
  have f125 : h122 q106 = some (.inr (4, [.int 0, .int 0, .null, .int 0, .int 0])) := by rw [e123]; exact pu_s
  refine lv_dup F.1 F.2.1 d_T_init_37 rfl ?_
  refine lv_aload_n F.1 F.2.1 d_T_init_38 rfl (lv_at hl 4 rfl) ?_
  refine pw_cv (pr_I F (c_Fr_init l D cs A h122 q106 bo f125) X_T_21 rfl rfl ⟨by decide, by decide⟩ hP hA hK hS rfl hl.1 rfl (Nat.le_of_ble_eq_true rfl) d_T_init_39 ⟨by decide, by decide⟩) hS (fun h126 H locs hq hP hS => ?_)
  obtain ⟨j127, j128⟩ := hq
  have hx : ext h h126 [a] := hx.trans j128 (fun y hy => by
    simp only [List.mem_cons, List.not_mem_nil, or_false] at hy
    rcases hy with rfl
    · exact Or.inr g124)
  have f129 : h122 q4 = some (.inl (cs 4, 6, .inr (.inr (.inr (.inr (va_up (va_up (va_up (va_up (fun _ => none) 0 (some q15)) 1 (some q34)) 2 (some q54)) 3 (some q78))))))) := by rw [e123]; exact pu_f n107 f101
  have f130 : h126 q4 = some (.inl (cs 4, 6, .inr (.inr (.inr (.inr (va_up (va_up (va_up (va_up (fun _ => none) 0 (some q15)) 1 (some q34)) 2 (some q54)) 3 (some q78))))))) := j128.1 _ _ f129 (nin1 (pu_t f129 f125 (show (306 : Nat) ≠ 4 by decide)))
  refine W.eq (g2 := F0 m 42 ls [.ref q106, .int (nI 4), .ref q4]) (by rw [(show (4 : Int32) = nI 4 by decide)]) ?_
  refine pw_astqN1 F hK.1 hP hS 4 4 f130 rfl j127 rfl (k := 4) (by decide) (by decide) d_T_init_42 (fun H locs hP hS => ?_)
  have hP : pw D vwCl A (pu h126 q4 (.inl (cs 4, 6, .inr (.inr (.inr (.inr (va_up (va_up (va_up (va_up (va_up (fun _ => none) 0 (some q15)) 1 (some q34)) 2 (some q54)) 3 (some q78)) 4 (some q106)))))))) H := hP
  obtain ⟨h131, e132⟩ : ∃ z9 : pw_H, z9 = pu h126 q4 (.inl (cs 4, 6, .inr (.inr (.inr (.inr (va_up (va_up (va_up (va_up (va_up (fun _ => none) 0 (some q15)) 1 (some q34)) 2 (some q54)) 3 (some q78)) 4 (some q106))))))) := ⟨_, rfl⟩
  rw [← e132] at hP
  have hx : ext h h131 [a] := by rw [e132]; exact hx.pu (Or.inr g8)
  have f133 : h131 q4 = some (.inl (cs 4, 6, .inr (.inr (.inr (.inr (va_up (va_up (va_up (va_up (va_up (fun _ => none) 0 (some q15)) 1 (some q34)) 2 (some q54)) 3 (some q78)) 4 (some q106))))))) := by rw [e132]; exact pu_s
  refine lv_iinc (k := 0) (v := 5) F.1 F.2.1 d_T_init_43 hl rfl (by decide) (by decide) rfl (fun ls hl => ?_)
  replace hl : lv_has ls 5 [(4, .int 5), (0, .ref a), (1, .int fn), (2, .int lv), (3, .ref bo)] := hl
  refine lv_goto (tgt := 21) F.1 F.2.1 d_T_init_46 (by decide) ?_
  refine lv_iload F.1 F.2.1 d_T_init_21 (lv_at hl 0 rfl) ?_
  refine lv_bipush (v := 6) F.1 F.2.1 d_T_init_23 (by decide) ?_
  refine lv_icmp_ge (tgt := 49) F.1 F.2.1 d_T_init_25 (by decide) (fun c134 => absurd c134 (by decide)) (fun c134 => ?_)
  refine lv_aload_n F.1 F.2.1 d_T_init_28 rfl (lv_at hl 1 rfl) ?_
  have f135 : h122 a = some (.inr (5, [.ref q4, .int 0, .int lv, .int 0, .int 0, .int 0, .int 0])) := by rw [e123]; exact pu_f n107 f105
  have f136 : h126 a = some (.inr (5, [.ref q4, .int 0, .int lv, .int 0, .int 0, .int 0, .int 0])) := j128.1 _ _ f135 (nin1 (pu_t f135 f125 (show (5 : Nat) ≠ 4 by decide)))
  have f137 : h131 a = some (.inr (5, [.ref q4, .int 0, .int lv, .int 0, .int 0, .int 0, .int 0])) := by rw [e132]; exact pu_k f136 (pu_t f136 f130 (show (5 : Nat) ≠ 306 by decide))
  refine pw_get F I_T hK.1 hP f137 rfl 0 (by decide) L_T_17 (fun _ z => z) rfl d_T_init_29 ?_
  refine lv_iload F.1 F.2.1 d_T_init_32 (lv_at hl 0 rfl) ?_
  refine pw_new (ci := 4) (fs := [.int 0, .int 0, .null, .int 0, .int 0]) F I_Fr ty_Fr k_Fr C_T_15 N_Fr Z_Fr hK.1 hP hS hA rfl (fun j hj => by rcases (show j = 0 ∨ j = 1 ∨ j = 2 ∨ j = 3 ∨ j = 4 by omega) with rfl | rfl | rfl | rfl | rfl <;> rfl) (by decide) (by decide) d_T_init_34 (fun q138 H n139 hP hS => ?_)
  have f140 : h122 q15 = some (.inr (4, [.int 0, .int 0, .ref bo, .int 0, .int 0])) := by rw [e123]; exact pu_f n107 f110
  have f141 : h126 q15 = some (.inr (4, [.int 0, .int 0, .ref bo, .int 0, .int 0])) := j128.1 _ _ f140 (nin1 k111)
  have f142 : h131 q15 = some (.inr (4, [.int 0, .int 0, .ref bo, .int 0, .int 0])) := by rw [e132]; exact pu_k f141 (pu_t f141 f130 (show (4 : Nat) ≠ 306 by decide))
  have k143 : q15 ≠ q138 := none_ne f142 n139
  have f144 : h122 q34 = some (.inr (4, [.int 0, .int 0, .ref bo, .int 0, .int 0])) := by rw [e123]; exact pu_f n107 f114
  have f145 : h126 q34 = some (.inr (4, [.int 0, .int 0, .ref bo, .int 0, .int 0])) := j128.1 _ _ f144 (nin1 k115)
  have f146 : h131 q34 = some (.inr (4, [.int 0, .int 0, .ref bo, .int 0, .int 0])) := by rw [e132]; exact pu_k f145 (pu_t f145 f130 (show (4 : Nat) ≠ 306 by decide))
  have k147 : q34 ≠ q138 := none_ne f146 n139
  have f148 : h122 q54 = some (.inr (4, [.int 0, .int 0, .ref bo, .int 0, .int 0])) := by rw [e123]; exact pu_f n107 f118
  have f149 : h126 q54 = some (.inr (4, [.int 0, .int 0, .ref bo, .int 0, .int 0])) := j128.1 _ _ f148 (nin1 k119)
  have f150 : h131 q54 = some (.inr (4, [.int 0, .int 0, .ref bo, .int 0, .int 0])) := by rw [e132]; exact pu_k f149 (pu_t f149 f130 (show (4 : Nat) ≠ 306 by decide))
  have k151 : q54 ≠ q138 := none_ne f150 n139
  have f152 : h122 q78 = some (.inr (4, [.int 0, .int 0, .ref bo, .int 0, .int 0])) := by rw [e123]; exact pu_f n107 f120
  have f153 : h126 q78 = some (.inr (4, [.int 0, .int 0, .ref bo, .int 0, .int 0])) := j128.1 _ _ f152 (nin1 k121)
  have f154 : h131 q78 = some (.inr (4, [.int 0, .int 0, .ref bo, .int 0, .int 0])) := by rw [e132]; exact pu_k f153 (pu_t f153 f130 (show (4 : Nat) ≠ 306 by decide))
  have k155 : q78 ≠ q138 := none_ne f154 n139
  have f156 : h131 q106 = some (.inr (4, [.int 0, .int 0, .ref bo, .int 0, .int 0])) := by rw [e132]; exact pu_k j127 (pu_t j127 f130 (show (4 : Nat) ≠ 306 by decide))
  have k157 : q106 ≠ q138 := none_ne f156 n139
  have hP : pw D vwCl A (pu h131 q138 (.inr (4, [.int 0, .int 0, .null, .int 0, .int 0]))) H := hP
  have g160 : h q138 = none := hx.2 _ n139
  obtain ⟨h158, e159⟩ : ∃ z9 : pw_H, z9 = pu h131 q138 (.inr (4, [.int 0, .int 0, .null, .int 0, .int 0])) := ⟨_, rfl⟩
  rw [← e159] at hP
  have hx : ext h h158 [a] := by rw [e159]; exact hx.pu (Or.inr g160)
  have f161 : h158 q138 = some (.inr (4, [.int 0, .int 0, .null, .int 0, .int 0])) := by rw [e159]; exact pu_s
  refine lv_dup F.1 F.2.1 d_T_init_37 rfl ?_
  refine lv_aload_n F.1 F.2.1 d_T_init_38 rfl (lv_at hl 4 rfl) ?_
  refine pw_cv (pr_I F (c_Fr_init l D cs A h158 q138 bo f161) X_T_21 rfl rfl ⟨by decide, by decide⟩ hP hA hK hS rfl hl.1 rfl (Nat.le_of_ble_eq_true rfl) d_T_init_39 ⟨by decide, by decide⟩) hS (fun h162 H locs hq hP hS => ?_)
  obtain ⟨j163, j164⟩ := hq
  have hx : ext h h162 [a] := hx.trans j164 (fun y hy => by
    simp only [List.mem_cons, List.not_mem_nil, or_false] at hy
    rcases hy with rfl
    · exact Or.inr g160)
  have f165 : h158 q4 = some (.inl (cs 4, 6, .inr (.inr (.inr (.inr (va_up (va_up (va_up (va_up (va_up (fun _ => none) 0 (some q15)) 1 (some q34)) 2 (some q54)) 3 (some q78)) 4 (some q106))))))) := by rw [e159]; exact pu_f n139 f133
  have f166 : h162 q4 = some (.inl (cs 4, 6, .inr (.inr (.inr (.inr (va_up (va_up (va_up (va_up (va_up (fun _ => none) 0 (some q15)) 1 (some q34)) 2 (some q54)) 3 (some q78)) 4 (some q106))))))) := j164.1 _ _ f165 (nin1 (pu_t f165 f161 (show (306 : Nat) ≠ 4 by decide)))
  refine W.eq (g2 := F0 m 42 ls [.ref q138, .int (nI 5), .ref q4]) (by rw [(show (5 : Int32) = nI 5 by decide)]) ?_
  refine pw_astqN1 F hK.1 hP hS 4 4 f166 rfl j163 rfl (k := 5) (by decide) (by decide) d_T_init_42 (fun H locs hP hS => ?_)
  have hP : pw D vwCl A (pu h162 q4 (.inl (cs 4, 6, .inr (.inr (.inr (.inr (va_up (va_up (va_up (va_up (va_up (va_up (fun _ => none) 0 (some q15)) 1 (some q34)) 2 (some q54)) 3 (some q78)) 4 (some q106)) 5 (some q138)))))))) H := hP
  obtain ⟨h167, e168⟩ : ∃ z9 : pw_H, z9 = pu h162 q4 (.inl (cs 4, 6, .inr (.inr (.inr (.inr (va_up (va_up (va_up (va_up (va_up (va_up (fun _ => none) 0 (some q15)) 1 (some q34)) 2 (some q54)) 3 (some q78)) 4 (some q106)) 5 (some q138))))))) := ⟨_, rfl⟩
  rw [← e168] at hP
  have hx : ext h h167 [a] := by rw [e168]; exact hx.pu (Or.inr g8)
  have f169 : h167 q4 = some (.inl (cs 4, 6, .inr (.inr (.inr (.inr (va_up (va_up (va_up (va_up (va_up (va_up (fun _ => none) 0 (some q15)) 1 (some q34)) 2 (some q54)) 3 (some q78)) 4 (some q106)) 5 (some q138))))))) := by rw [e168]; exact pu_s
  refine lv_iinc (k := 0) (v := 6) F.1 F.2.1 d_T_init_43 hl rfl (by decide) (by decide) rfl (fun ls hl => ?_)
  replace hl : lv_has ls 5 [(4, .int 6), (0, .ref a), (1, .int fn), (2, .int lv), (3, .ref bo)] := hl
  refine lv_goto (tgt := 21) F.1 F.2.1 d_T_init_46 (by decide) ?_
  refine lv_iload F.1 F.2.1 d_T_init_21 (lv_at hl 0 rfl) ?_
  refine lv_bipush (v := 6) F.1 F.2.1 d_T_init_23 (by decide) ?_
  refine lv_icmp_ge (tgt := 49) F.1 F.2.1 d_T_init_25 (by decide) (fun c170 => ?_) (fun c170 => absurd (by decide) c170)
  refine lv_aload_n F.1 F.2.1 d_T_init_49 rfl (lv_at hl 1 rfl) ?_
  have f171 : h158 a = some (.inr (5, [.ref q4, .int 0, .int lv, .int 0, .int 0, .int 0, .int 0])) := by rw [e159]; exact pu_f n139 f137
  have f172 : h162 a = some (.inr (5, [.ref q4, .int 0, .int lv, .int 0, .int 0, .int 0, .int 0])) := j164.1 _ _ f171 (nin1 (pu_t f171 f161 (show (5 : Nat) ≠ 4 by decide)))
  have f173 : h167 a = some (.inr (5, [.ref q4, .int 0, .int lv, .int 0, .int 0, .int 0, .int 0])) := by rw [e168]; exact pu_k f172 (pu_t f172 f166 (show (5 : Nat) ≠ 306 by decide))
  refine pw_get F I_T hK.1 hP f173 rfl 0 (by decide) L_T_17 (fun _ z => z) rfl d_T_init_50 ?_
  refine lv_iconst (v := 0) F.1 F.2.1 d_T_init_53 (by decide) ?_
  refine W.eq (g2 := F0 m 54 ls [.int (nI 0), .ref q4]) (by rw [(show (0 : Int32) = nI 0 by decide)]) ?_
  refine pw_aldqN F hK.1 hP 4 f169 rfl (k := 0) (by decide) (by decide) d_T_init_54 ?_
  refine W.eq (g2 := F0 m 55 ls [.ref q15]) (by rfl) ?_
  refine lv_iload_n F.1 F.2.1 d_T_init_55 rfl (lv_at hl 2 rfl) ?_
  refine lv_iload_n F.1 F.2.1 d_T_init_56 rfl (lv_at hl 3 rfl) ?_
  refine lv_aload_n F.1 F.2.1 d_T_init_57 rfl (lv_at hl 4 rfl) ?_
  have f174 : h158 q15 = some (.inr (4, [.int 0, .int 0, .ref bo, .int 0, .int 0])) := by rw [e159]; exact pu_f n139 f142
  have f175 : h162 q15 = some (.inr (4, [.int 0, .int 0, .ref bo, .int 0, .int 0])) := j164.1 _ _ f174 (nin1 k143)
  have f176 : h167 q15 = some (.inr (4, [.int 0, .int 0, .ref bo, .int 0, .int 0])) := by rw [e168]; exact pu_k f175 (pu_t f175 f166 (show (4 : Nat) ≠ 306 by decide))
  refine pw_cv (pr_V F (c_Fr_begin l D cs A h167 q15 bo _ _ _ _ _ fn lv f176) X_T_24 rfl rfl ⟨by decide, by decide⟩ hP hA hK hS f176 rfl rfl rfl hl.1 rfl (Nat.le_of_ble_eq_true rfl) d_T_init_58 ⟨by decide, by decide⟩) hS (fun hz9 H locs hq hP hS => ?_)
  obtain ⟨jz8, jz9⟩ := hq
  have hx : ext h hz9 [a] := hx.trans jz9 (fun y hy => by
    simp only [List.mem_cons, List.not_mem_nil, or_false] at hy
    rcases hy with rfl
    · exact Or.inr g19)
  refine lv_aload_n F.1 F.2.1 d_T_init_61 rfl (lv_at hl 1 rfl) ?_
  refine lv_iconst (v := 1) F.1 F.2.1 d_T_init_62 (by decide) ?_
  have f177 : hz9 a = some (.inr (5, [.ref q4, .int 0, .int lv, .int 0, .int 0, .int 0, .int 0])) := jz9.1 _ _ f173 (nin1 (pu_t f173 f176 (show (5 : Nat) ≠ 4 by decide)))
  refine pw_put F I_T ty_T k_T n_T hK.1 hP hS f177 rfl 1 (by decide) L_T_28 (fun _ z => z) rfl rfl rfl (Nat.le_of_ble_eq_true rfl) d_T_init_63 (fun H locs hP hS => ?_)
  have hP : pw D vwCl A (pu hz9 a (.inr (5, [.ref q4, .int 1, .int lv, .int 0, .int 0, .int 0, .int 0]))) H := hP
  obtain ⟨h178, e179⟩ : ∃ z9 : pw_H, z9 = pu hz9 a (.inr (5, [.ref q4, .int 1, .int lv, .int 0, .int 0, .int 0, .int 0])) := ⟨_, rfl⟩
  rw [← e179] at hP
  have hx : ext h h178 [a] := by rw [e179]; exact hx.pu (Or.inl (by simp))
  have f180 : h178 a = some (.inr (5, [.ref q4, .int 1, .int lv, .int 0, .int 0, .int 0, .int 0])) := by rw [e179]; exact pu_s
  have f181 : h178 q15 = some (.inr (4, [.int fn, .int lv, .ref bo, .int 0, .int 0])) := by rw [e179]; exact pu_k jz8 (pu_t jz8 f177 (show (4 : Nat) ≠ 5 by decide))
  have f182 : h158 q34 = some (.inr (4, [.int 0, .int 0, .ref bo, .int 0, .int 0])) := by rw [e159]; exact pu_f n139 f146
  have f183 : h162 q34 = some (.inr (4, [.int 0, .int 0, .ref bo, .int 0, .int 0])) := j164.1 _ _ f182 (nin1 k147)
  have f184 : h167 q34 = some (.inr (4, [.int 0, .int 0, .ref bo, .int 0, .int 0])) := by rw [e168]; exact pu_k f183 (pu_t f183 f166 (show (4 : Nat) ≠ 306 by decide))
  have f185 : hz9 q34 = some (.inr (4, [.int 0, .int 0, .ref bo, .int 0, .int 0])) := jz9.1 _ _ f184 (nin1 (Ne.symm k37))
  have f186 : h178 q34 = some (.inr (4, [.int 0, .int 0, .ref bo, .int 0, .int 0])) := by rw [e179]; exact pu_k f185 (pu_t f185 f177 (show (4 : Nat) ≠ 5 by decide))
  have f187 : h158 q54 = some (.inr (4, [.int 0, .int 0, .ref bo, .int 0, .int 0])) := by rw [e159]; exact pu_f n139 f150
  have f188 : h162 q54 = some (.inr (4, [.int 0, .int 0, .ref bo, .int 0, .int 0])) := j164.1 _ _ f187 (nin1 k151)
  have f189 : h167 q54 = some (.inr (4, [.int 0, .int 0, .ref bo, .int 0, .int 0])) := by rw [e168]; exact pu_k f188 (pu_t f188 f166 (show (4 : Nat) ≠ 306 by decide))
  have f190 : hz9 q54 = some (.inr (4, [.int 0, .int 0, .ref bo, .int 0, .int 0])) := jz9.1 _ _ f189 (nin1 (Ne.symm k59))
  have f191 : h178 q54 = some (.inr (4, [.int 0, .int 0, .ref bo, .int 0, .int 0])) := by rw [e179]; exact pu_k f190 (pu_t f190 f177 (show (4 : Nat) ≠ 5 by decide))
  have f192 : h158 q78 = some (.inr (4, [.int 0, .int 0, .ref bo, .int 0, .int 0])) := by rw [e159]; exact pu_f n139 f154
  have f193 : h162 q78 = some (.inr (4, [.int 0, .int 0, .ref bo, .int 0, .int 0])) := j164.1 _ _ f192 (nin1 k155)
  have f194 : h167 q78 = some (.inr (4, [.int 0, .int 0, .ref bo, .int 0, .int 0])) := by rw [e168]; exact pu_k f193 (pu_t f193 f166 (show (4 : Nat) ≠ 306 by decide))
  have f195 : hz9 q78 = some (.inr (4, [.int 0, .int 0, .ref bo, .int 0, .int 0])) := jz9.1 _ _ f194 (nin1 (Ne.symm k83))
  have f196 : h178 q78 = some (.inr (4, [.int 0, .int 0, .ref bo, .int 0, .int 0])) := by rw [e179]; exact pu_k f195 (pu_t f195 f177 (show (4 : Nat) ≠ 5 by decide))
  have f197 : h158 q106 = some (.inr (4, [.int 0, .int 0, .ref bo, .int 0, .int 0])) := by rw [e159]; exact pu_f n139 f156
  have f198 : h162 q106 = some (.inr (4, [.int 0, .int 0, .ref bo, .int 0, .int 0])) := j164.1 _ _ f197 (nin1 k157)
  have f199 : h167 q106 = some (.inr (4, [.int 0, .int 0, .ref bo, .int 0, .int 0])) := by rw [e168]; exact pu_k f198 (pu_t f198 f166 (show (4 : Nat) ≠ 306 by decide))
  have f200 : hz9 q106 = some (.inr (4, [.int 0, .int 0, .ref bo, .int 0, .int 0])) := jz9.1 _ _ f199 (nin1 (Ne.symm k111))
  have f201 : h178 q106 = some (.inr (4, [.int 0, .int 0, .ref bo, .int 0, .int 0])) := by rw [e179]; exact pu_k f200 (pu_t f200 f177 (show (4 : Nat) ≠ 5 by decide))
  have f202 : h167 q138 = some (.inr (4, [.int 0, .int 0, .ref bo, .int 0, .int 0])) := by rw [e168]; exact pu_k j163 (pu_t j163 f166 (show (4 : Nat) ≠ 306 by decide))
  have f203 : hz9 q138 = some (.inr (4, [.int 0, .int 0, .ref bo, .int 0, .int 0])) := jz9.1 _ _ f202 (nin1 (Ne.symm k143))
  have f204 : h178 q138 = some (.inr (4, [.int 0, .int 0, .ref bo, .int 0, .int 0])) := by rw [e179]; exact pu_k f203 (pu_t f203 f177 (show (4 : Nat) ≠ 5 by decide))
  have f205 : hz9 q4 = some (.inl (cs 4, 6, .inr (.inr (.inr (.inr (va_up (va_up (va_up (va_up (va_up (va_up (fun _ => none) 0 (some q15)) 1 (some q34)) 2 (some q54)) 3 (some q78)) 4 (some q106)) 5 (some q138))))))) := jz9.1 _ _ f169 (nin1 (pu_t f169 f176 (show (306 : Nat) ≠ 4 by decide)))
  have f206 : h178 q4 = some (.inl (cs 4, 6, .inr (.inr (.inr (.inr (va_up (va_up (va_up (va_up (va_up (va_up (fun _ => none) 0 (some q15)) 1 (some q34)) 2 (some q54)) 3 (some q78)) 4 (some q106)) 5 (some q138))))))) := by rw [e179]; exact pu_k f205 (pu_t f205 f177 (show (306 : Nat) ≠ 5 by decide))
  have hcase : ∀ k : Nat, k < 6 → k = 0 ∨ k = 1 ∨ k = 2 ∨ k = 3 ∨ k = 4 ∨ k = 5 := fun k hk => by omega
  refine pw_vret F hr hlk hP hA hK hS (by decide) (by decide) d_T_init_66 ⟨q4, (fun k => match k with | 0 => q15 | 1 => q34 | 2 => q54 | 3 => q78 | 4 => q106 | _ => q138), g8, ?_, ?_, _, f206, ?_, f181, ?_, f180, hx⟩
  · intro k hk; rcases hcase k hk with rfl | rfl | rfl | rfl | rfl | rfl
    · exact g19
    · exact g40
    · exact g64
    · exact g92
    · exact g124
    · exact g160
  · intro i j hi hj hij; rcases hcase i hi with rfl | rfl | rfl | rfl | rfl | rfl <;> rcases hcase j hj with rfl | rfl | rfl | rfl | rfl | rfl
    · rfl
    · exact absurd hij k37
    · exact absurd hij k59
    · exact absurd hij k83
    · exact absurd hij k111
    · exact absurd hij k143
    · exact absurd hij (Ne.symm k37)
    · rfl
    · exact absurd hij k61
    · exact absurd hij k87
    · exact absurd hij k115
    · exact absurd hij k147
    · exact absurd hij (Ne.symm k59)
    · exact absurd hij (Ne.symm k61)
    · rfl
    · exact absurd hij k89
    · exact absurd hij k119
    · exact absurd hij k151
    · exact absurd hij (Ne.symm k83)
    · exact absurd hij (Ne.symm k87)
    · exact absurd hij (Ne.symm k89)
    · rfl
    · exact absurd hij k121
    · exact absurd hij k155
    · exact absurd hij (Ne.symm k111)
    · exact absurd hij (Ne.symm k115)
    · exact absurd hij (Ne.symm k119)
    · exact absurd hij (Ne.symm k121)
    · rfl
    · exact absurd hij k157
    · exact absurd hij (Ne.symm k143)
    · exact absurd hij (Ne.symm k147)
    · exact absurd hij (Ne.symm k151)
    · exact absurd hij (Ne.symm k155)
    · exact absurd hij (Ne.symm k157)
    · rfl
  · intro k hk; rcases hcase k hk with rfl | rfl | rfl | rfl | rfl | rfl <;> rfl
  · intro k hk1 hk; rcases hcase k hk with rfl | rfl | rfl | rfl | rfl | rfl
    · omega
    · exact f186
    · exact f191
    · exact f196
    · exact f201
    · exact f204
abbrev rm_T_top : Room := { frames := 0, cells := 0, slots := 0, locals := 0 }
set_option maxHeartbeats 4000000 in
set_option maxRecDepth 100000 in
theorem c_T_top (l : Launch) (D : va_G) (cs : Nat → Nat) (A : Nat → Prop) (h : pw_H) (a fa k fr : Nat) (v2 v3 v4 v5 v6 : Value) (q : Nat → Option Nat) (hk : k < 6) (hq : q k = some fr) (fa1 : h a = some (.inr (5, [.ref fa, .int (nI (k + 1)), v2, v3, v4, v5, v6]))) (fa2 : h fa = some (.inl (cs 4, 6, .inr (.inr (.inr (.inr q)))))) : pm l y_T_top b_T_top 1 (some (.object "PatchDesk$Frame")) rm_T_top [.ref a] D cs A h (va_Qr (fun _ => True) (fun (h' : pw_H) (r : Nat) (t : State) => (h' = h ∧ r = fr) ∧ ww D cs A h' t) A) 0 0 := by
  refine pm_of R_T rfl (by decide) (Nat.le_of_ble_eq_true rfl) (fun p e s m below meth c ls F hr hlk hnm hP hA hK hl => ?_)
  have hS : va_S A s.heap s.heap [] := va_S.rf
  replace hl : lv_has ls 1 [(0, .ref a)] := hl
  refine lv_aload_n F.1 F.2.1 d_T_top_0 rfl (lv_at hl 0 rfl) ?_
  refine pw_get F I_T hK.1 hP fa1 rfl 0 (by decide) L_T_17 (fun _ z => z) rfl d_T_top_1 ?_
  refine lv_aload_n F.1 F.2.1 d_T_top_4 rfl (lv_at hl 0 rfl) ?_
  refine pw_get F I_T hK.1 hP fa1 rfl 1 (by decide) L_T_28 (fun _ z => z) rfl d_T_top_5 ?_
  refine lv_iconst (v := 1) F.1 F.2.1 d_T_top_8 (by decide) ?_
  refine lv_isub F.1 F.2.1 d_T_top_9 ?_
  refine W.eq (g2 := F0 m 10 ls [.int (nI k), .ref fa]) (by rw [nI_pred]) ?_
  refine pw_aldqN F hK.1 hP 4 fa2 rfl (k := k) hk (by decide) d_T_top_10 ?_
  refine W.eq (g2 := F0 m 11 ls [.ref fr]) (by rw [hq]; rfl) ?_
  exact pw_aret F hr (Or.inl ⟨_, rfl⟩) hlk hP hA hK hS (by decide) (by decide) d_T_top_11 ⟨rfl, rfl⟩
abbrev rm_T_putOut : Room := { frames := 0, cells := 0, slots := 0, locals := 0 }
set_option maxHeartbeats 4000000 in
set_option maxRecDepth 100000 in
theorem c_T_putOut (l : Launch) (D : va_G) (cs : Nat → Nat) (A : Nat → Prop) (h : pw_H) (a : Nat) (v0 v1 v2 v4 v6 : Value) (sm ou : Int32) (fa : h a = some (.inr (5, [v0, v1, v2, .int sm, v4, .int ou, v6]))) : pm l y_T_putOut b_T_putOut 1 none rm_T_putOut [.ref a] D cs A h (va_Qv (fun (h' : pw_H) => h' a = some (.inr (5, [v0, v1, v2, .int sm, v4, .int (ou + 1), .int sm])) ∧ ext h h' [a]) (ww D cs A) A) 0 0 := by
  refine pm_of R_T rfl (by decide) (Nat.le_of_ble_eq_true rfl) (fun p e s m below meth c ls F hr hlk hnm hP hA hK hl => ?_)
  have hS : va_S A s.heap s.heap [] := va_S.rf
  replace hl : lv_has ls 1 [(0, .ref a)] := hl
  have hx : ext h h [a] := ext.rf
  refine lv_aload_n F.1 F.2.1 d_T_putOut_0 rfl (lv_at hl 0 rfl) ?_
  refine lv_dup F.1 F.2.1 d_T_putOut_1 rfl ?_
  refine pw_get F I_T hK.1 hP fa rfl 5 (by decide) L_T_31 (fun _ z => z) rfl d_T_putOut_2 ?_
  refine lv_iconst (v := 1) F.1 F.2.1 d_T_putOut_5 (by decide) ?_
  refine lv_iadd F.1 F.2.1 d_T_putOut_6 ?_
  refine pw_put F I_T ty_T k_T n_T hK.1 hP hS fa rfl 5 (by decide) L_T_31 (fun _ z => z) rfl rfl rfl (Nat.le_of_ble_eq_true rfl) d_T_putOut_7 (fun H locs hP hS => ?_)
  have hP : pw D vwCl A (pu h a (.inr (5, [v0, v1, v2, .int sm, v4, .int (ou + 1), v6]))) H := hP
  obtain ⟨h1, e2⟩ : ∃ z9 : pw_H, z9 = pu h a (.inr (5, [v0, v1, v2, .int sm, v4, .int (ou + 1), v6])) := ⟨_, rfl⟩
  rw [← e2] at hP
  have hx : ext h h1 [a] := by rw [e2]; exact hx.pu (Or.inl (by simp))
  have f3 : h1 a = some (.inr (5, [v0, v1, v2, .int sm, v4, .int (ou + 1), v6])) := by rw [e2]; exact pu_s
  refine lv_aload_n F.1 F.2.1 d_T_putOut_10 rfl (lv_at hl 0 rfl) ?_
  refine lv_aload_n F.1 F.2.1 d_T_putOut_11 rfl (lv_at hl 0 rfl) ?_
  refine pw_get F I_T hK.1 hP f3 rfl 3 (by decide) L_T_34 (fun _ z => z) rfl d_T_putOut_12 ?_
  refine pw_put F I_T ty_T k_T n_T hK.1 hP hS f3 rfl 6 (by decide) L_T_37 (fun _ z => z) rfl rfl rfl (Nat.le_of_ble_eq_true rfl) d_T_putOut_15 (fun H locs hP hS => ?_)
  have hP : pw D vwCl A (pu h1 a (.inr (5, [v0, v1, v2, .int sm, v4, .int (ou + 1), .int sm]))) H := hP
  obtain ⟨h4, e5⟩ : ∃ z9 : pw_H, z9 = pu h1 a (.inr (5, [v0, v1, v2, .int sm, v4, .int (ou + 1), .int sm])) := ⟨_, rfl⟩
  rw [← e5] at hP
  have hx : ext h h4 [a] := by rw [e5]; exact hx.pu (Or.inl (by simp))
  have f6 : h4 a = some (.inr (5, [v0, v1, v2, .int sm, v4, .int (ou + 1), .int sm])) := by rw [e5]; exact pu_s
  exact pw_vret F hr hlk hP hA hK hS (by decide) (by decide) d_T_putOut_18 ⟨f6, hx⟩
end
section
theorem sf_mod : Cond.sameField "java/util/ArrayList" "java/util/AbstractList" "modCount" "I" ∈ gws := gw_in 77 (by decide +kernel) (by decide +kernel)
abbrev rm_ABC_init : Room := { frames := 1, cells := 0, slots := 0, locals := 16 }
set_option maxHeartbeats 4000000 in
set_option maxRecDepth 100000 in
theorem c_ABC_init (l : Launch) (D : va_G) (cs : Nat → Nat) (A : Nat → Prop) (h : pw_H) (L : Nat) : pm l y_ABC_init b_ABC_init 1 none rm_ABC_init [.ref L] D cs A h (va_Qv (fun (h' : pw_H) => h' = h) (ww D cs A) A) 0 0 := by
  refine pm_of R_ABC rfl (by decide) (Nat.le_of_ble_eq_true rfl) (fun p e s m below meth c ls F hr hlk hnm hP hA hK hl => ?_)
  have hS : va_S A s.heap s.heap [] := va_S.rf
  have hl : lv_has ls 1 [(0, .ref L)] := hl
  refine lv_aload_n F.1 F.2.1 d_ABC_init_0 rfl (lv_at hl 0 rfl) ?_
  refine W.objInit F.1 F.2.1 F.2.2.2.1 (F.2.2.2.2 _ O_ABC_1) (F.2.2.2.2 _ iM_obj) (F.2.2.2.2 _ co_obj) rfl (hl.1.trans F.2.2.1.symm) rfl d_ABC_init_1 (by decide) (Nat.le_of_ble_eq_true rfl) ?_
  refine W.eq (g2 := F0 m 4 ls []) (by rfl) ?_
  exact pw_vret F hr hlk hP hA hK hS (by decide) (by decide) d_ABC_init_4 rfl
abbrev rm_ABL_init : Room := { frames := 2, cells := 0, slots := 0, locals := 36 }
set_option maxHeartbeats 4000000 in
set_option maxRecDepth 100000 in
theorem c_ABL_init (l : Launch) (D : va_G) (cs : Nat → Nat) (A : Nat → Prop) (h : pw_H) (L : Nat) (E n : Value) (mc : Value) (fL : h L = some (.inr (0, [E, n, mc]))) : pm l y_ABL_init b_ABL_init 1 none rm_ABL_init [.ref L] D cs A h (va_Qv (fun (h' : pw_H) => h' L = some (.inr (0, [E, n, .int 0])) ∧ ext h h' [L]) (ww D cs A) A) 0 0 := by
  refine pm_of R_ABL rfl (by decide) (Nat.le_of_ble_eq_true rfl) (fun p e s m below meth c ls F hr hlk hnm hP hA hK hl => ?_)
  have hS : va_S A s.heap s.heap [] := va_S.rf
  have hl : lv_has ls 1 [(0, .ref L)] := hl
  have hx : ext h h [L] := ext.rf
  refine lv_aload_n F.1 F.2.1 d_ABL_init_0 rfl (lv_at hl 0 rfl) ?_
  refine pw_cvE (pr_I F (c_ABC_init l D cs A h L) X_ABL_1 rfl rfl ⟨by decide, by decide⟩ hP hA hK hS rfl hl.1 rfl (Nat.le_of_ble_eq_true rfl) d_ABL_init_1 ⟨by decide, by decide⟩) hS (fun H locs hP hS => ?_)
  refine lv_aload_n F.1 F.2.1 d_ABL_init_4 rfl (lv_at hl 0 rfl) ?_
  refine lv_iconst (v := 0) F.1 F.2.1 d_ABL_init_5 (by decide) ?_
  refine pw_put F I_AL ty_AL k_AL n_AL hK.1 hP hS fL rfl 2 (by decide) L_ABL_7 (fun _ z => z) rfl rfl rfl (Nat.le_of_ble_eq_true rfl) d_ABL_init_6 (fun H locs hP hS => ?_)
  have hP : pw D vwCl A (pu h L (.inr (0, [E, n, .int 0]))) H := hP
  obtain ⟨h1, e2⟩ : ∃ z9 : pw_H, z9 = pu h L (.inr (0, [E, n, .int 0])) := ⟨_, rfl⟩
  rw [← e2] at hP
  have hx : ext h h1 [L] := by rw [e2]; exact hx.pu (Or.inl (by simp))
  have f3 : h1 L = some (.inr (0, [E, n, .int 0])) := by rw [e2]; exact pu_s
  exact pw_vret F hr hlk hP hA hK hS (by decide) (by decide) d_ABL_init_9 ⟨f3, hx⟩
abbrev rm_AL_init : Room := { frames := 3, cells := 0, slots := 0, locals := 56 }
set_option maxHeartbeats 4000000 in
set_option maxRecDepth 100000 in
theorem c_AL_init (l : Launch) (D : va_G) (cs : Nat → Nat) (A : Nat → Prop) (h : pw_H) (L : Nat) (fL : h L = some (.inr (0, [.null, .int 0, .int 0]))) : pm l y_AL_init b_AL_init 1 none rm_AL_init [.ref L] D cs A h (va_Qv (fun (h' : pw_H) => h' L = some (.inr (0, [.ref (cs 9), .int 0, .int 0])) ∧ ext h h' [L]) (ww D cs A) A) 0 0 := by
  refine pm_of R_AL rfl (by decide) (Nat.le_of_ble_eq_true rfl) (fun p e s m below meth c ls F hr hlk hnm hP hA hK hl => ?_)
  have hS : va_S A s.heap s.heap [] := va_S.rf
  have hl : lv_has ls 1 [(0, .ref L)] := hl
  have hx : ext h h [L] := ext.rf
  refine lv_aload_n F.1 F.2.1 d_AL_init_0 rfl (lv_at hl 0 rfl) ?_
  refine pw_cv (pr_I F (c_ABL_init l D cs A h L _ _ _ fL) X_AL_1 rfl rfl ⟨by decide, by decide⟩ hP hA hK hS rfl hl.1 rfl (Nat.le_of_ble_eq_true rfl) d_AL_init_1 ⟨by decide, by decide⟩) hS (fun hw1 H locs hq hP hS => ?_)
  obtain ⟨jw1, jw2⟩ := hq
  have hx : ext h hw1 [L] := hx.trans jw2 (fun y hy => by
    simp only [List.mem_cons, List.not_mem_nil, or_false] at hy
    rcases hy with rfl
    · exact Or.inl (by simp))
  refine lv_aload_n F.1 F.2.1 d_AL_init_4 rfl (lv_at hl 0 rfl) ?_
  refine va_gets F.1 F.2.1 hK.2.1 hS F.2.2.2.1 (F.2.2.2.2 _ L_AL_39) (fun _ z => z) d_AL_init_5 ?_
  refine pw_put F I_AL ty_AL k_AL n_AL hK.1 hP hS jw1 rfl 0 (by decide) L_AL_9 (fun _ z => z) rfl rfl rfl (Nat.le_of_ble_eq_true rfl) d_AL_init_8 (fun H locs hP hS => ?_)
  have hP : pw D vwCl A (pu hw1 L (.inr (0, [.ref (cs 9), .int 0, .int 0]))) H := hP
  obtain ⟨h1, e2⟩ : ∃ z9 : pw_H, z9 = pu hw1 L (.inr (0, [.ref (cs 9), .int 0, .int 0])) := ⟨_, rfl⟩
  rw [← e2] at hP
  have hx : ext h h1 [L] := by rw [e2]; exact hx.pu (Or.inl (by simp))
  have f3 : h1 L = some (.inr (0, [.ref (cs 9), .int 0, .int 0])) := by rw [e2]; exact pu_s
  exact pw_vret F hr hlk hP hA hK hS (by decide) (by decide) d_AL_init_11 ⟨f3, hx⟩
abbrev rm_PC_checkIndex : Room := { frames := 0, cells := 0, slots := 0, locals := 0 }
set_option maxHeartbeats 4000000 in
set_option maxRecDepth 100000 in
theorem c_PC_checkIndex (l : Launch) (D : va_G) (cs : Nat → Nat) (A : Nat → Prop) (h : pw_H) (k n : Nat) (hk : k < n) (hn : n < 2 ^ 31) : pm l y_PC_checkIndex b_PC_checkIndex 3 (some .int) rm_PC_checkIndex [.int (nI k), .int (nI n), .null] D cs A h (va_Qi (fun (r : Int32) (h' : pw_H) => h' = h ∧ r = nI k) (ww D cs A) A) 0 0 := by
  refine pm_of R_PC rfl (by decide) (Nat.le_of_ble_eq_true rfl) (fun p e s m below meth c ls F hr hlk hnm hP hA hK hl => ?_)
  have hS : va_S A s.heap s.heap [] := va_S.rf
  have hl : lv_has ls 3 [(0, .int (nI k)), (1, .int (nI n)), (2, .null)] := hl
  refine lv_iload_n F.1 F.2.1 d_PC_checkIndex_0 rfl (lv_at hl 0 rfl) ?_
  refine lv_if_lt (tgt := 9) F.1 F.2.1 d_PC_checkIndex_1 (by decide) (fun c1 => absurd c1 (nI_pos (Nat.lt_trans hk hn))) (fun c1 => ?_)
  refine lv_iload_n F.1 F.2.1 d_PC_checkIndex_4 rfl (lv_at hl 0 rfl) ?_
  refine lv_iload_n F.1 F.2.1 d_PC_checkIndex_5 rfl (lv_at hl 1 rfl) ?_
  refine lv_icmp_lt (tgt := 16) F.1 F.2.1 d_PC_checkIndex_6 (by decide) (fun c2 => ?_) (fun c2 => absurd (nI_lt hk hn) c2)
  refine lv_iload_n F.1 F.2.1 d_PC_checkIndex_16 rfl (lv_at hl 0 rfl) ?_
  exact pw_iret F hr hlk hP hA hK hS (by decide) (by decide) d_PC_checkIndex_17 ⟨rfl, rfl⟩
abbrev rm_OB_checkIndex : Room := { frames := 1, cells := 0, slots := 0, locals := 22 }
set_option maxHeartbeats 4000000 in
set_option maxRecDepth 100000 in
theorem c_OB_checkIndex (l : Launch) (D : va_G) (cs : Nat → Nat) (A : Nat → Prop) (h : pw_H) (k n : Nat) (hk : k < n) (hn : n < 2 ^ 31) : pm l y_OB_checkIndex b_OB_checkIndex 2 (some .int) rm_OB_checkIndex [.int (nI k), .int (nI n)] D cs A h (va_Qi (fun (r : Int32) (h' : pw_H) => h' = h ∧ r = nI k) (ww D cs A) A) 0 0 := by
  refine pm_of R_OB rfl (by decide) (Nat.le_of_ble_eq_true rfl) (fun p e s m below meth c ls F hr hlk hnm hP hA hK hl => ?_)
  have hS : va_S A s.heap s.heap [] := va_S.rf
  have hl : lv_has ls 2 [(0, .int (nI k)), (1, .int (nI n))] := hl
  refine lv_iload_n F.1 F.2.1 d_OB_checkIndex_0 rfl (lv_at hl 0 rfl) ?_
  refine lv_iload_n F.1 F.2.1 d_OB_checkIndex_1 rfl (lv_at hl 1 rfl) ?_
  refine lv_null F.1 F.2.1 d_OB_checkIndex_2 ?_
  refine pw_ciE (pr_S F (c_PC_checkIndex l D cs A h k n hk hn) X_OB_105 rfl rfl ⟨by decide, by decide⟩ hP hA hK hS rfl hl.1 rfl (Nat.le_of_ble_eq_true rfl) d_OB_checkIndex_3 ⟨by decide, by decide⟩) hS (fun H locs hP hS => ?_)
  exact pw_iret F hr hlk hP hA hK hS (by decide) (by decide) d_OB_checkIndex_6 ⟨rfl, rfl⟩
abbrev rm_AL_elementData : Room := { frames := 0, cells := 0, slots := 0, locals := 0 }
set_option maxHeartbeats 4000000 in
set_option maxRecDepth 100000 in
theorem c_AL_elementData (l : Launch) (D : va_G) (cs : Nat → Nat) (A : Nat → Prop) (h : pw_H) (L E k v : Nat) (sz mc : Value) (q : Nat → Option Nat) (hk : k < 10) (hq : q k = some v) (fL : h L = some (.inr (0, [.ref E, sz, mc]))) (fE : h E = some (.inl (cs 5, 10, .inr (.inr (.inr (.inr q)))))) : pm l y_AL_elementData b_AL_elementData 2 (some (.object "java/lang/Object")) rm_AL_elementData [.ref L, .int (nI k)] D cs A h (va_Qr (fun _ => True) (fun (h' : pw_H) (r : Nat) (t : State) => (h' = h ∧ r = v) ∧ ww D cs A h' t) A) 0 0 := by
  refine pm_of R_AL rfl (by decide) (Nat.le_of_ble_eq_true rfl) (fun p e s m below meth c ls F hr hlk hnm hP hA hK hl => ?_)
  have hS : va_S A s.heap s.heap [] := va_S.rf
  have hl : lv_has ls 2 [(0, .ref L), (1, .int (nI k))] := hl
  refine lv_aload_n F.1 F.2.1 d_AL_elementData_0 rfl (lv_at hl 0 rfl) ?_
  refine pw_get F I_AL hK.1 hP fL rfl 0 (by decide) L_AL_9 (fun _ z => z) rfl d_AL_elementData_1 ?_
  refine lv_iload_n F.1 F.2.1 d_AL_elementData_4 rfl (lv_at hl 1 rfl) ?_
  refine pw_aldqN F hK.1 hP 5 fE rfl (k := k) hk (by decide) d_AL_elementData_5 ?_
  refine W.eq (g2 := F0 m 6 ls [.ref v]) (by rw [hq]; rfl) ?_
  exact pw_aret F hr (Or.inl ⟨_, rfl⟩) hlk hP hA hK hS (by decide) (by decide) d_AL_elementData_6 ⟨rfl, rfl⟩
abbrev rm_AL_get : Room := { frames := 2, cells := 0, slots := 0, locals := 43 }
set_option maxHeartbeats 4000000 in
set_option maxRecDepth 100000 in
theorem c_AL_get (l : Launch) (D : va_G) (cs : Nat → Nat) (A : Nat → Prop) (h : pw_H) (L E n k v : Nat) (mc : Value) (q : Nat → Option Nat) (hk : k < n) (hn : n ≤ 10) (hq : q k = some v) (fL : h L = some (.inr (0, [.ref E, .int (nI n), mc]))) (fE : h E = some (.inl (cs 5, 10, .inr (.inr (.inr (.inr q)))))) : pm l y_AL_get b_AL_get 2 (some (.object "java/lang/Object")) rm_AL_get [.ref L, .int (nI k)] D cs A h (va_Qr (fun _ => True) (fun (h' : pw_H) (r : Nat) (t : State) => (h' = h ∧ r = v) ∧ ww D cs A h' t) A) 0 0 := by
  refine pm_of R_AL rfl (by decide) (Nat.le_of_ble_eq_true rfl) (fun p e s m below meth c ls F hr hlk hnm hP hA hK hl => ?_)
  have hS : va_S A s.heap s.heap [] := va_S.rf
  have hl : lv_has ls 2 [(0, .ref L), (1, .int (nI k))] := hl
  refine lv_iload_n F.1 F.2.1 d_AL_get_0 rfl (lv_at hl 1 rfl) ?_
  refine lv_aload_n F.1 F.2.1 d_AL_get_1 rfl (lv_at hl 0 rfl) ?_
  refine pw_get F I_AL hK.1 hP fL rfl 1 (by decide) L_AL_48 (fun _ z => z) rfl d_AL_get_2 ?_
  refine pw_ciE (pr_S F (c_OB_checkIndex l D cs A h k n hk (by omega)) X_AL_118 rfl rfl ⟨by decide, by decide⟩ hP hA hK hS rfl hl.1 rfl (Nat.le_of_ble_eq_true rfl) d_AL_get_5 ⟨by decide, by decide⟩) hS (fun H locs hP hS => ?_)
  refine lv_pop F.1 F.2.1 d_AL_get_8 rfl ?_
  refine lv_aload_n F.1 F.2.1 d_AL_get_9 rfl (lv_at hl 0 rfl) ?_
  refine lv_iload_n F.1 F.2.1 d_AL_get_10 rfl (lv_at hl 1 rfl) ?_
  refine pw_crE (pr_V F (c_AL_elementData l D cs A h L E k v _ _ q (by omega) hq fL fE) X_AL_123 rfl rfl ⟨by decide, by decide⟩ hP hA hK hS fL rfl rfl rfl hl.1 rfl (Nat.le_of_ble_eq_true rfl) d_AL_get_11 ⟨by decide, by decide⟩) hS (fun H locs hP hS => ?_)
  exact pw_aret F hr (Or.inl ⟨_, rfl⟩) hlk hP hA hK hS (by decide) (by decide) d_AL_get_14 ⟨rfl, rfl⟩
abbrev rm_AL_grow1 : Room := { frames := 1, cells := 1, slots := 10, locals := 17 }
set_option maxHeartbeats 4000000 in
set_option maxRecDepth 100000 in
theorem c_AL_grow1 (l : Launch) (D : va_G) (cs : Nat → Nat) (A : Nat → Prop) (h : pw_H) (L : Nat) (mc : Value) (fL : h L = some (.inr (0, [.ref (cs 9), .int 0, mc]))) : pm l y_AL_grow1 b_AL_grow1 4 (some (.array (.object "java/lang/Object"))) rm_AL_grow1 [.ref L, .int 1] D cs A h (va_Qr (fun _ => True) (fun (h' : pw_H) (r : Nat) (t : State) => (h r = none ∧ h' r = some (.inl (cs 5, 10, .inr (.inr (.inr (.inr (fun _ => none)))))) ∧ h' L = some (.inr (0, [.ref r, .int 0, mc])) ∧ ext h h' [L]) ∧ ww D cs A h' t) A) 1 10 := by
  refine pm_of R_AL rfl (by decide) (Nat.le_of_ble_eq_true rfl) (fun p e s m below meth c ls F hr hlk hnm hP hA hK hl => ?_)
  have hS : va_S A s.heap s.heap [] := va_S.rf
  have hl : lv_has ls 4 [(0, .ref L), (1, .int 1)] := hl
  have hx : ext h h [L] := ext.rf
  refine lv_aload_n F.1 F.2.1 d_AL_grow1_0 rfl (lv_at hl 0 rfl) ?_
  refine pw_get F I_AL hK.1 hP fL rfl 0 (by decide) L_AL_9 (fun _ z => z) rfl d_AL_grow1_1 ?_
  refine va_tlen (N := 0) F.1 F.2.1 hK.2.2.1 hS (v := 0) (by decide) d_AL_grow1_4 ?_
  refine lv_istore_n F.1 F.2.1 d_AL_grow1_5 rfl hl (by decide) rfl (fun ls hl => ?_)
  have hl : lv_has ls 4 [(2, .int 0), (0, .ref L), (1, .int 1)] := hl
  refine lv_iload_n F.1 F.2.1 d_AL_grow1_6 rfl (lv_at hl 0 rfl) ?_
  refine lv_if_gt (tgt := 20) F.1 F.2.1 d_AL_grow1_7 (by decide) (fun c1 => absurd c1 (by decide)) (fun c1 => ?_)
  refine lv_aload_n F.1 F.2.1 d_AL_grow1_10 rfl (lv_at hl 1 rfl) ?_
  refine pw_get F I_AL hK.1 hP fL rfl 0 (by decide) L_AL_9 (fun _ z => z) rfl d_AL_grow1_11 ?_
  refine va_gets F.1 F.2.1 hK.2.1 hS F.2.2.2.1 (F.2.2.2.2 _ L_AL_39) (fun _ z => z) d_AL_grow1_14 ?_
  refine lv_acmp_eq (rx := some (cs 9)) (ry := some (cs 9)) (tgt := 45) F.1 F.2.1 d_AL_grow1_17 (by decide) (fun _ => ?_) (fun c9 => absurd rfl c9)
  refine lv_aload_n F.1 F.2.1 d_AL_grow1_45 rfl (lv_at hl 1 rfl) ?_
  refine lv_bipush (v := 10) F.1 F.2.1 d_AL_grow1_46 (by decide) ?_
  refine lv_iload_n F.1 F.2.1 d_AL_grow1_48 rfl (lv_at hl 2 rfl) ?_
  refine va_mmax F.1 F.2.1 (F.2.2.1.trans hl.1.symm) F.2.2.2.1 (F.2.2.2.2 _ X_AL_79.1.1) (F.2.2.2.2 _ sM_MA_max) (F.2.2.2.2 _ Z_MA) (F.2.2.2.2 _ co_MA_max) (by decide) (Nat.le_of_ble_eq_true rfl) (by decide) (by decide) d_AL_grow1_49 ?_
  refine W.eq (g2 := F0 m 52 ls [.int 10, .ref L]) (by rfl) ?_
  refine pw_newq (N' := 10) F C_AL_7 (hK.2.2.2.2.2.2.2.2 _ (by decide)) hK.1 hP hS hA 5 rfl (by decide) (by decide) (by decide) (by decide) (by decide) d_AL_grow1_52 (fun q2 H n3 hP hS => ?_)
  have hP : pw D vwCl A (pu h q2 (.inl (cs 5, 10, .inr (.inr (.inr (.inr (fun _ => none))))))) H := hP
  have g6 : h q2 = none := hx.2 _ n3
  obtain ⟨h4, e5⟩ : ∃ z9 : pw_H, z9 = pu h q2 (.inl (cs 5, 10, .inr (.inr (.inr (.inr (fun _ => none)))))) := ⟨_, rfl⟩
  rw [← e5] at hP
  have hx : ext h h4 [L] := by rw [e5]; exact hx.pu (Or.inr g6)
  have f7 : h4 q2 = some (.inl (cs 5, 10, .inr (.inr (.inr (.inr (fun _ => none)))))) := by rw [e5]; exact pu_s
  refine lv_dup_x1 F.1 F.2.1 d_AL_grow1_55 rfl rfl ?_
  have f8 : h4 L = some (.inr (0, [.ref (cs 9), .int 0, mc])) := by rw [e5]; exact pu_f n3 fL
  refine pw_put F I_AL ty_AL k_AL n_AL hK.1 hP hS f8 rfl 0 (by decide) L_AL_9 (fun _ z => z) rfl rfl rfl (Nat.le_of_ble_eq_true rfl) d_AL_grow1_56 (fun H locs hP hS => ?_)
  have hP : pw D vwCl A (pu h4 L (.inr (0, [.ref q2, .int 0, mc]))) H := hP
  obtain ⟨h9, e10⟩ : ∃ z9 : pw_H, z9 = pu h4 L (.inr (0, [.ref q2, .int 0, mc])) := ⟨_, rfl⟩
  rw [← e10] at hP
  have hx : ext h h9 [L] := by rw [e10]; exact hx.pu (Or.inl (by simp))
  have f11 : h9 L = some (.inr (0, [.ref q2, .int 0, mc])) := by rw [e10]; exact pu_s
  have f12 : h9 q2 = some (.inl (cs 5, 10, .inr (.inr (.inr (.inr (fun _ => none)))))) := by rw [e10]; exact pu_k f7 (pu_t f7 f8 (show (310 : Nat) ≠ 0 by decide))
  exact pw_aret F hr (Or.inr ⟨_, rfl⟩) hlk hP hA hK hS (by decide) (by decide) d_AL_grow1_59 ⟨g6, f12, f11, hx⟩
abbrev rm_AL_grow0 : Room := { frames := 2, cells := 1, slots := 10, locals := 40 }
set_option maxHeartbeats 4000000 in
set_option maxRecDepth 100000 in
theorem c_AL_grow0 (l : Launch) (D : va_G) (cs : Nat → Nat) (A : Nat → Prop) (h : pw_H) (L : Nat) (mc : Value) (fL : h L = some (.inr (0, [.ref (cs 9), .int 0, mc]))) : pm l y_AL_grow0 b_AL_grow0 1 (some (.array (.object "java/lang/Object"))) rm_AL_grow0 [.ref L] D cs A h (va_Qr (fun _ => True) (fun (h' : pw_H) (r : Nat) (t : State) => (h r = none ∧ h' r = some (.inl (cs 5, 10, .inr (.inr (.inr (.inr (fun _ => none)))))) ∧ h' L = some (.inr (0, [.ref r, .int 0, mc])) ∧ ext h h' [L]) ∧ ww D cs A h' t) A) 1 10 := by
  refine pm_of R_AL rfl (by decide) (Nat.le_of_ble_eq_true rfl) (fun p e s m below meth c ls F hr hlk hnm hP hA hK hl => ?_)
  have hS : va_S A s.heap s.heap [] := va_S.rf
  have hl : lv_has ls 1 [(0, .ref L)] := hl
  have hx : ext h h [L] := ext.rf
  refine lv_aload_n F.1 F.2.1 d_AL_grow0_0 rfl (lv_at hl 0 rfl) ?_
  refine lv_aload_n F.1 F.2.1 d_AL_grow0_1 rfl (lv_at hl 0 rfl) ?_
  refine pw_get F I_AL hK.1 hP fL rfl 1 (by decide) L_AL_48 (fun _ z => z) rfl d_AL_grow0_2 ?_
  refine lv_iconst (v := 1) F.1 F.2.1 d_AL_grow0_5 (by decide) ?_
  refine lv_iadd F.1 F.2.1 d_AL_grow0_6 ?_
  refine W.eq (g2 := F0 m 7 ls [.int 1, .ref L]) (by rw [show (0 + 1 : Int32) = 1 from by decide]) ?_
  refine pw_cr (post := fun r h' => h r = none ∧ h' r = some (.inl (cs 5, 10, .inr (.inr (.inr (.inr (fun _ => none)))))) ∧ h' L = some (.inr (0, [.ref r, .int 0, mc])) ∧ ext h h' [L]) (pr_V F (c_AL_grow1 l D cs A h L mc fL) X_AL_69 rfl rfl ⟨by decide, by decide⟩ hP hA hK hS fL rfl rfl rfl hl.1 rfl (Nat.le_of_ble_eq_true rfl) d_AL_grow0_7 ⟨by decide, by decide⟩) hS (fun E hw1 H locs hq hP hS => ?_)
  obtain ⟨jw1, jw2, jw3, jw4⟩ := hq
  have g1 : h E = none := hx.2 _ jw1
  have hx : ext h hw1 [L] := hx.trans jw4 (fun y hy => by
    simp only [List.mem_cons, List.not_mem_nil, or_false] at hy
    rcases hy with rfl
    · exact Or.inl (by simp))
  exact pw_aret F hr (Or.inr ⟨_, rfl⟩) hlk hP hA hK hS (by decide) (by decide) d_AL_grow0_10 ⟨g1, jw2, jw3, hx⟩
abbrev rm_AL_add1f_2 : Room := { frames := 3, cells := 1, slots := 10, locals := 60 }
set_option maxHeartbeats 4000000 in
set_option maxRecDepth 100000 in
theorem c_AL_add1f_2 (l : Launch) (D : va_G) (cs : Nat → Nat) (A : Nat → Prop) (h : pw_H) (L v : Nat) (vs : List Value) (mc : Value) (fL : h L = some (.inr (0, [.ref (cs 9), .int 0, mc]))) (fv : h v = some (.inr (2, vs))) : pm l y_AL_add1 b_AL_add1 4 none rm_AL_add1f_2 [.ref L, .ref v, .ref (cs 9), .int 0] D cs A h (va_Qv (fun (h' : pw_H) => ∃ E : Nat, h E = none ∧ h' E = some (.inl (cs 5, 10, .inr (.inr (.inr (.inr (va_up (fun _ => none) 0 (some v))))))) ∧ h' L = some (.inr (0, [.ref E, .int (0 + 1), mc])) ∧ ext h h' [L]) (ww D cs A) A) 1 10 := by
  refine pm_of R_AL rfl (by decide) (Nat.le_of_ble_eq_true rfl) (fun p e s m below meth c ls F hr hlk hnm hP hA hK hl => ?_)
  have hS : va_S A s.heap s.heap [] := va_S.rf
  have hl : lv_has ls 4 [(0, .ref L), (1, .ref v), (2, .ref (cs 9)), (3, .int 0)] := hl
  have hx : ext h h [L] := ext.rf
  refine lv_iload_n F.1 F.2.1 d_AL_add1_0 rfl (lv_at hl 3 rfl) ?_
  refine lv_aload_n F.1 F.2.1 d_AL_add1_1 rfl (lv_at hl 2 rfl) ?_
  refine va_tlen (N := 0) F.1 F.2.1 hK.2.2.1 hS (v := 0) (by decide) d_AL_add1_2 ?_
  refine lv_icmp_ne (tgt := 11) F.1 F.2.1 d_AL_add1_3 (by decide) (fun c1 => absurd c1 (by decide)) (fun c1 => ?_)
  refine lv_aload_n F.1 F.2.1 d_AL_add1_6 rfl (lv_at hl 0 rfl) ?_
  refine pw_cr (post := fun r h' => h r = none ∧ h' r = some (.inl (cs 5, 10, .inr (.inr (.inr (.inr (fun _ => none)))))) ∧ h' L = some (.inr (0, [.ref r, .int 0, mc])) ∧ ext h h' [L]) (pr_V F (c_AL_grow0 l D cs A h L mc fL) X_AL_129 rfl rfl ⟨by decide, by decide⟩ hP hA hK hS fL rfl rfl rfl hl.1 rfl (Nat.le_of_ble_eq_true rfl) d_AL_add1_7 ⟨by decide, by decide⟩) hS (fun E hw1 H locs hq hP hS => ?_)
  obtain ⟨jw1, jw2, jw3, jw4⟩ := hq
  have g2 : h E = none := hx.2 _ jw1
  have hx : ext h hw1 [L] := hx.trans jw4 (fun y hy => by
    simp only [List.mem_cons, List.not_mem_nil, or_false] at hy
    rcases hy with rfl
    · exact Or.inl (by simp))
  refine lv_astore_n F.1 F.2.1 d_AL_add1_10 rfl hl (by decide) rfl (fun ls hl => ?_)
  have hl : lv_has ls 4 [(2, .ref E), (0, .ref L), (1, .ref v), (3, .int 0)] := hl
  refine lv_aload_n F.1 F.2.1 d_AL_add1_11 rfl (lv_at hl 0 rfl) ?_
  refine lv_iload_n F.1 F.2.1 d_AL_add1_12 rfl (lv_at hl 3 rfl) ?_
  refine lv_aload_n F.1 F.2.1 d_AL_add1_13 rfl (lv_at hl 2 rfl) ?_
  refine W.eq (g2 := F0 m 14 ls [.ref v, .int (nI 0), .ref E]) (by rw [(show (0 : Int32) = nI 0 from by decide)]) ?_
  have f3 : hw1 v = some (.inr (2, vs)) := jw4.1 _ _ fv (nin1 (pu_t fv fL (show (2 : Nat) ≠ 0 by decide)))
  refine pw_astqON F hK.1 hP hS 5 2 jw2 rfl (hK.2.2.2.2.2.2.2.1 ("PatchDesk$Function", "java/lang/Object") (by decide)) f3 rfl (k := 0) (by decide) (by decide) d_AL_add1_14 (fun H locs hP hS => ?_)
  have hP : pw D vwCl A (pu hw1 E (.inl (cs 5, 10, .inr (.inr (.inr (.inr (va_up (fun _ => none) 0 (some v)))))))) H := hP
  obtain ⟨h4, e5⟩ : ∃ z9 : pw_H, z9 = pu hw1 E (.inl (cs 5, 10, .inr (.inr (.inr (.inr (va_up (fun _ => none) 0 (some v))))))) := ⟨_, rfl⟩
  rw [← e5] at hP
  have hx : ext h h4 [L] := by rw [e5]; exact hx.pu (Or.inr g2)
  have f6 : h4 E = some (.inl (cs 5, 10, .inr (.inr (.inr (.inr (va_up (fun _ => none) 0 (some v))))))) := by rw [e5]; exact pu_s
  refine lv_aload_n F.1 F.2.1 d_AL_add1_15 rfl (lv_at hl 1 rfl) ?_
  refine lv_iload_n F.1 F.2.1 d_AL_add1_16 rfl (lv_at hl 3 rfl) ?_
  refine lv_iconst (v := 1) F.1 F.2.1 d_AL_add1_17 (by decide) ?_
  refine lv_iadd F.1 F.2.1 d_AL_add1_18 ?_
  have f7 : h4 L = some (.inr (0, [.ref E, .int 0, mc])) := by rw [e5]; exact pu_k jw3 (pu_t jw3 jw2 (show (0 : Nat) ≠ 310 by decide))
  refine pw_put F I_AL ty_AL k_AL n_AL hK.1 hP hS f7 rfl 1 (by decide) L_AL_48 (fun _ z => z) rfl rfl rfl (Nat.le_of_ble_eq_true rfl) d_AL_add1_19 (fun H locs hP hS => ?_)
  have hP : pw D vwCl A (pu h4 L (.inr (0, [.ref E, .int (0 + 1), mc]))) H := hP
  obtain ⟨h8, e9⟩ : ∃ z9 : pw_H, z9 = pu h4 L (.inr (0, [.ref E, .int (0 + 1), mc])) := ⟨_, rfl⟩
  rw [← e9] at hP
  have hx : ext h h8 [L] := by rw [e9]; exact hx.pu (Or.inl (by simp))
  have f10 : h8 L = some (.inr (0, [.ref E, .int (0 + 1), mc])) := by rw [e9]; exact pu_s
  have f11 : h8 E = some (.inl (cs 5, 10, .inr (.inr (.inr (.inr (va_up (fun _ => none) 0 (some v))))))) := by rw [e9]; exact pu_k f6 (pu_t f6 f7 (show (310 : Nat) ≠ 0 by decide))
  exact pw_vret F hr hlk hP hA hK hS (by decide) (by decide) d_AL_add1_22 ⟨E, g2, f11, f10, hx⟩
abbrev rm_AL_add1g_2 : Room := { frames := 0, cells := 0, slots := 0, locals := 0 }
set_option maxHeartbeats 4000000 in
set_option maxRecDepth 100000 in
theorem c_AL_add1g_2 (l : Launch) (D : va_G) (cs : Nat → Nat) (A : Nat → Prop) (h : pw_H) (L E v n : Nat) (vs : List Value) (mc : Value) (q : Nat → Option Nat) (hn : n < 10) (fL : h L = some (.inr (0, [.ref E, .int (nI n), mc]))) (fE : h E = some (.inl (cs 5, 10, .inr (.inr (.inr (.inr q)))))) (fv : h v = some (.inr (2, vs))) : pm l y_AL_add1 b_AL_add1 4 none rm_AL_add1g_2 [.ref L, .ref v, .ref E, .int (nI n)] D cs A h (va_Qv (fun (h' : pw_H) => h' E = some (.inl (cs 5, 10, .inr (.inr (.inr (.inr (va_up q n (some v))))))) ∧ h' L = some (.inr (0, [.ref E, .int (nI n + 1), mc])) ∧ ext h h' [L, E]) (ww D cs A) A) 0 0 := by
  refine pm_of R_AL rfl (by decide) (Nat.le_of_ble_eq_true rfl) (fun p e s m below meth c ls F hr hlk hnm hP hA hK hl => ?_)
  have hS : va_S A s.heap s.heap [] := va_S.rf
  have hl : lv_has ls 4 [(0, .ref L), (1, .ref v), (2, .ref E), (3, .int (nI n))] := hl
  have hx : ext h h [L, E] := ext.rf
  refine lv_iload_n F.1 F.2.1 d_AL_add1_0 rfl (lv_at hl 3 rfl) ?_
  refine lv_aload_n F.1 F.2.1 d_AL_add1_1 rfl (lv_at hl 2 rfl) ?_
  refine pw_alen F hK.1 hP 5 fE rfl (v := 10) (show Int32.ofNat 10 = 10 from by decide) d_AL_add1_2 ?_
  refine lv_icmp_ne (tgt := 11) F.1 F.2.1 d_AL_add1_3 (by decide) (fun c1 => ?_) (fun c1 => absurd c1 (fun z9 => by have := (nI_eq (a := n) (b := 10) (by omega) (by decide)).mp z9; omega))
  refine lv_aload_n F.1 F.2.1 d_AL_add1_11 rfl (lv_at hl 2 rfl) ?_
  refine lv_iload_n F.1 F.2.1 d_AL_add1_12 rfl (lv_at hl 3 rfl) ?_
  refine lv_aload_n F.1 F.2.1 d_AL_add1_13 rfl (lv_at hl 1 rfl) ?_
  refine pw_astqON F hK.1 hP hS 5 2 fE rfl (hK.2.2.2.2.2.2.2.1 ("PatchDesk$Function", "java/lang/Object") (by decide)) fv rfl (k := n) hn (by decide) d_AL_add1_14 (fun H locs hP hS => ?_)
  have hP : pw D vwCl A (pu h E (.inl (cs 5, 10, .inr (.inr (.inr (.inr (va_up q n (some v)))))))) H := hP
  obtain ⟨h2, e3⟩ : ∃ z9 : pw_H, z9 = pu h E (.inl (cs 5, 10, .inr (.inr (.inr (.inr (va_up q n (some v))))))) := ⟨_, rfl⟩
  rw [← e3] at hP
  have hx : ext h h2 [L, E] := by rw [e3]; exact hx.pu (Or.inl (by simp))
  have f4 : h2 E = some (.inl (cs 5, 10, .inr (.inr (.inr (.inr (va_up q n (some v))))))) := by rw [e3]; exact pu_s
  refine lv_aload_n F.1 F.2.1 d_AL_add1_15 rfl (lv_at hl 0 rfl) ?_
  refine lv_iload_n F.1 F.2.1 d_AL_add1_16 rfl (lv_at hl 3 rfl) ?_
  refine lv_iconst (v := 1) F.1 F.2.1 d_AL_add1_17 (by decide) ?_
  refine lv_iadd F.1 F.2.1 d_AL_add1_18 ?_
  have f5 : h2 L = some (.inr (0, [.ref E, .int (nI n), mc])) := by rw [e3]; exact pu_k fL (pu_t fL fE (show (0 : Nat) ≠ 310 by decide))
  refine pw_put F I_AL ty_AL k_AL n_AL hK.1 hP hS f5 rfl 1 (by decide) L_AL_48 (fun _ z => z) rfl rfl rfl (Nat.le_of_ble_eq_true rfl) d_AL_add1_19 (fun H locs hP hS => ?_)
  have hP : pw D vwCl A (pu h2 L (.inr (0, [.ref E, .int ((nI n) + 1), mc]))) H := hP
  obtain ⟨h6, e7⟩ : ∃ z9 : pw_H, z9 = pu h2 L (.inr (0, [.ref E, .int ((nI n) + 1), mc])) := ⟨_, rfl⟩
  rw [← e7] at hP
  have hx : ext h h6 [L, E] := by rw [e7]; exact hx.pu (Or.inl (by simp))
  have f8 : h6 L = some (.inr (0, [.ref E, .int ((nI n) + 1), mc])) := by rw [e7]; exact pu_s
  have f9 : h6 E = some (.inl (cs 5, 10, .inr (.inr (.inr (.inr (va_up q n (some v))))))) := by rw [e7]; exact pu_k f4 (pu_t f4 f5 (show (310 : Nat) ≠ 0 by decide))
  exact pw_vret F hr hlk hP hA hK hS (by decide) (by decide) d_AL_add1_22 ⟨f9, f8, hx⟩
abbrev rm_AL_addf_2 : Room := { frames := 4, cells := 1, slots := 10, locals := 83 }
set_option maxHeartbeats 4000000 in
set_option maxRecDepth 100000 in
theorem c_AL_addf_2 (l : Launch) (D : va_G) (cs : Nat → Nat) (A : Nat → Prop) (h : pw_H) (L v : Nat) (vs : List Value) (mc : Int32) (fL : h L = some (.inr (0, [.ref (cs 9), .int 0, .int mc]))) (fv : h v = some (.inr (2, vs))) : pm l y_AL_add0 b_AL_add0 2 (some .boolean) rm_AL_addf_2 [.ref L, .ref v] D cs A h (va_Qi (fun (r : Int32) (h' : pw_H) => r = 1 ∧ ∃ E : Nat, h E = none ∧ h' E = some (.inl (cs 5, 10, .inr (.inr (.inr (.inr (va_up (fun _ => none) 0 (some v))))))) ∧ h' L = some (.inr (0, [.ref E, .int (0 + 1), .int (mc + 1)])) ∧ ext h h' [L]) (ww D cs A) A) 1 10 := by
  refine pm_of R_AL rfl (by decide) (Nat.le_of_ble_eq_true rfl) (fun p e s m below meth c ls F hr hlk hnm hP hA hK hl => ?_)
  have hS : va_S A s.heap s.heap [] := va_S.rf
  have hl : lv_has ls 2 [(0, .ref L), (1, .ref v)] := hl
  have hx : ext h h [L] := ext.rf
  refine lv_aload_n F.1 F.2.1 d_AL_add0_0 rfl (lv_at hl 0 rfl) ?_
  refine lv_dup F.1 F.2.1 d_AL_add0_1 rfl ?_
  refine pw_get F I_AL hK.1 hP fL rfl 2 (by decide) L_AL_63 (fun x9 h9 => u_same (F.2.2.2.2 _ sf_mod) x9 h9) rfl d_AL_add0_2 ?_
  refine lv_iconst (v := 1) F.1 F.2.1 d_AL_add0_5 (by decide) ?_
  refine lv_iadd F.1 F.2.1 d_AL_add0_6 ?_
  refine pw_put F I_AL ty_AL k_AL n_AL hK.1 hP hS fL rfl 2 (by decide) L_AL_63 (fun x9 h9 => u_same (F.2.2.2.2 _ sf_mod) x9 h9) rfl rfl rfl (Nat.le_of_ble_eq_true rfl) d_AL_add0_7 (fun H locs hP hS => ?_)
  have hP : pw D vwCl A (pu h L (.inr (0, [.ref (cs 9), .int 0, .int (mc + 1)]))) H := hP
  obtain ⟨h1, e2⟩ : ∃ z9 : pw_H, z9 = pu h L (.inr (0, [.ref (cs 9), .int 0, .int (mc + 1)])) := ⟨_, rfl⟩
  rw [← e2] at hP
  have hx : ext h h1 [L] := by rw [e2]; exact hx.pu (Or.inl (by simp))
  have f3 : h1 L = some (.inr (0, [.ref (cs 9), .int 0, .int (mc + 1)])) := by rw [e2]; exact pu_s
  refine lv_aload_n F.1 F.2.1 d_AL_add0_10 rfl (lv_at hl 0 rfl) ?_
  refine lv_aload_n F.1 F.2.1 d_AL_add0_11 rfl (lv_at hl 1 rfl) ?_
  refine lv_aload_n F.1 F.2.1 d_AL_add0_12 rfl (lv_at hl 0 rfl) ?_
  refine pw_get F I_AL hK.1 hP f3 rfl 0 (by decide) L_AL_9 (fun _ z => z) rfl d_AL_add0_13 ?_
  refine lv_aload_n F.1 F.2.1 d_AL_add0_16 rfl (lv_at hl 0 rfl) ?_
  refine pw_get F I_AL hK.1 hP f3 rfl 1 (by decide) L_AL_48 (fun _ z => z) rfl d_AL_add0_17 ?_
  have f4 : h1 v = some (.inr (2, vs)) := by rw [e2]; exact pu_k fv (pu_t fv fL (show (2 : Nat) ≠ 0 by decide))
  refine pw_cv (pr_V F (c_AL_add1f_2 l D cs A h1 L v vs _ f3 f4) X_AL_131 rfl rfl ⟨by decide, by decide⟩ hP hA hK hS f3 rfl rfl rfl hl.1 rfl (Nat.le_of_ble_eq_true rfl) d_AL_add0_20 ⟨by decide, by decide⟩) hS (fun hw1 H locs hq hP hS => ?_)
  obtain ⟨E, jw0, jw1, jw2, jw3⟩ := hq
  have g5 : h E = none := hx.2 _ jw0
  have hx : ext h hw1 [L] := hx.trans jw3 (fun y hy => by
    simp only [List.mem_cons, List.not_mem_nil, or_false] at hy
    rcases hy with rfl
    · exact Or.inl (by simp))
  refine lv_iconst (v := 1) F.1 F.2.1 d_AL_add0_23 (by decide) ?_
  exact pw_zret F hr rfl hlk hP hA hK hS (by decide) (by decide) d_AL_add0_24 ⟨rfl, E, g5, jw1, jw2, hx⟩
abbrev rm_AL_addg_2 : Room := { frames := 1, cells := 0, slots := 0, locals := 23 }
set_option maxHeartbeats 4000000 in
set_option maxRecDepth 100000 in
theorem c_AL_addg_2 (l : Launch) (D : va_G) (cs : Nat → Nat) (A : Nat → Prop) (h : pw_H) (L E v n : Nat) (vs : List Value) (mc : Int32) (q : Nat → Option Nat) (hn : n < 10) (fL : h L = some (.inr (0, [.ref E, .int (nI n), .int mc]))) (fE : h E = some (.inl (cs 5, 10, .inr (.inr (.inr (.inr q)))))) (fv : h v = some (.inr (2, vs))) : pm l y_AL_add0 b_AL_add0 2 (some .boolean) rm_AL_addg_2 [.ref L, .ref v] D cs A h (va_Qi (fun (r : Int32) (h' : pw_H) => r = 1 ∧ h' E = some (.inl (cs 5, 10, .inr (.inr (.inr (.inr (va_up q n (some v))))))) ∧ h' L = some (.inr (0, [.ref E, .int (nI n + 1), .int (mc + 1)])) ∧ ext h h' [L, E]) (ww D cs A) A) 0 0 := by
  refine pm_of R_AL rfl (by decide) (Nat.le_of_ble_eq_true rfl) (fun p e s m below meth c ls F hr hlk hnm hP hA hK hl => ?_)
  have hS : va_S A s.heap s.heap [] := va_S.rf
  have hl : lv_has ls 2 [(0, .ref L), (1, .ref v)] := hl
  have hx : ext h h [L, E] := ext.rf
  refine lv_aload_n F.1 F.2.1 d_AL_add0_0 rfl (lv_at hl 0 rfl) ?_
  refine lv_dup F.1 F.2.1 d_AL_add0_1 rfl ?_
  refine pw_get F I_AL hK.1 hP fL rfl 2 (by decide) L_AL_63 (fun x9 h9 => u_same (F.2.2.2.2 _ sf_mod) x9 h9) rfl d_AL_add0_2 ?_
  refine lv_iconst (v := 1) F.1 F.2.1 d_AL_add0_5 (by decide) ?_
  refine lv_iadd F.1 F.2.1 d_AL_add0_6 ?_
  refine pw_put F I_AL ty_AL k_AL n_AL hK.1 hP hS fL rfl 2 (by decide) L_AL_63 (fun x9 h9 => u_same (F.2.2.2.2 _ sf_mod) x9 h9) rfl rfl rfl (Nat.le_of_ble_eq_true rfl) d_AL_add0_7 (fun H locs hP hS => ?_)
  have hP : pw D vwCl A (pu h L (.inr (0, [.ref E, .int (nI n), .int (mc + 1)]))) H := hP
  obtain ⟨h1, e2⟩ : ∃ z9 : pw_H, z9 = pu h L (.inr (0, [.ref E, .int (nI n), .int (mc + 1)])) := ⟨_, rfl⟩
  rw [← e2] at hP
  have hx : ext h h1 [L, E] := by rw [e2]; exact hx.pu (Or.inl (by simp))
  have f3 : h1 L = some (.inr (0, [.ref E, .int (nI n), .int (mc + 1)])) := by rw [e2]; exact pu_s
  refine lv_aload_n F.1 F.2.1 d_AL_add0_10 rfl (lv_at hl 0 rfl) ?_
  refine lv_aload_n F.1 F.2.1 d_AL_add0_11 rfl (lv_at hl 1 rfl) ?_
  refine lv_aload_n F.1 F.2.1 d_AL_add0_12 rfl (lv_at hl 0 rfl) ?_
  refine pw_get F I_AL hK.1 hP f3 rfl 0 (by decide) L_AL_9 (fun _ z => z) rfl d_AL_add0_13 ?_
  refine lv_aload_n F.1 F.2.1 d_AL_add0_16 rfl (lv_at hl 0 rfl) ?_
  refine pw_get F I_AL hK.1 hP f3 rfl 1 (by decide) L_AL_48 (fun _ z => z) rfl d_AL_add0_17 ?_
  have f4 : h1 E = some (.inl (cs 5, 10, .inr (.inr (.inr (.inr q))))) := by rw [e2]; exact pu_k fE (pu_t fE fL (show (310 : Nat) ≠ 0 by decide))
  have f5 : h1 v = some (.inr (2, vs)) := by rw [e2]; exact pu_k fv (pu_t fv fL (show (2 : Nat) ≠ 0 by decide))
  refine pw_cv (pr_V F (c_AL_add1g_2 l D cs A h1 L E v n vs _ q hn f3 f4 f5) X_AL_131 rfl rfl ⟨by decide, by decide⟩ hP hA hK hS f3 rfl rfl rfl hl.1 rfl (Nat.le_of_ble_eq_true rfl) d_AL_add0_20 ⟨by decide, by decide⟩) hS (fun hw1 H locs hq hP hS => ?_)
  obtain ⟨jw1, jw2, jw3⟩ := hq
  have hx : ext h hw1 [L, E] := hx.trans jw3 (fun y hy => by
    simp only [List.mem_cons, List.not_mem_nil, or_false] at hy
    rcases hy with rfl | rfl
    · exact Or.inl (by simp)
    · exact Or.inl (by simp))
  refine lv_iconst (v := 1) F.1 F.2.1 d_AL_add0_23 (by decide) ?_
  exact pw_zret F hr rfl hlk hP hA hK hS (by decide) (by decide) d_AL_add0_24 ⟨rfl, jw1, jw2, hx⟩
abbrev rm_AL_add1f_3 : Room := { frames := 3, cells := 1, slots := 10, locals := 60 }
set_option maxHeartbeats 4000000 in
set_option maxRecDepth 100000 in
theorem c_AL_add1f_3 (l : Launch) (D : va_G) (cs : Nat → Nat) (A : Nat → Prop) (h : pw_H) (L v : Nat) (vs : List Value) (mc : Value) (fL : h L = some (.inr (0, [.ref (cs 9), .int 0, mc]))) (fv : h v = some (.inr (3, vs))) : pm l y_AL_add1 b_AL_add1 4 none rm_AL_add1f_3 [.ref L, .ref v, .ref (cs 9), .int 0] D cs A h (va_Qv (fun (h' : pw_H) => ∃ E : Nat, h E = none ∧ h' E = some (.inl (cs 5, 10, .inr (.inr (.inr (.inr (va_up (fun _ => none) 0 (some v))))))) ∧ h' L = some (.inr (0, [.ref E, .int (0 + 1), mc])) ∧ ext h h' [L]) (ww D cs A) A) 1 10 := by
  refine pm_of R_AL rfl (by decide) (Nat.le_of_ble_eq_true rfl) (fun p e s m below meth c ls F hr hlk hnm hP hA hK hl => ?_)
  have hS : va_S A s.heap s.heap [] := va_S.rf
  have hl : lv_has ls 4 [(0, .ref L), (1, .ref v), (2, .ref (cs 9)), (3, .int 0)] := hl
  have hx : ext h h [L] := ext.rf
  refine lv_iload_n F.1 F.2.1 d_AL_add1_0 rfl (lv_at hl 3 rfl) ?_
  refine lv_aload_n F.1 F.2.1 d_AL_add1_1 rfl (lv_at hl 2 rfl) ?_
  refine va_tlen (N := 0) F.1 F.2.1 hK.2.2.1 hS (v := 0) (by decide) d_AL_add1_2 ?_
  refine lv_icmp_ne (tgt := 11) F.1 F.2.1 d_AL_add1_3 (by decide) (fun c1 => absurd c1 (by decide)) (fun c1 => ?_)
  refine lv_aload_n F.1 F.2.1 d_AL_add1_6 rfl (lv_at hl 0 rfl) ?_
  refine pw_cr (post := fun r h' => h r = none ∧ h' r = some (.inl (cs 5, 10, .inr (.inr (.inr (.inr (fun _ => none)))))) ∧ h' L = some (.inr (0, [.ref r, .int 0, mc])) ∧ ext h h' [L]) (pr_V F (c_AL_grow0 l D cs A h L mc fL) X_AL_129 rfl rfl ⟨by decide, by decide⟩ hP hA hK hS fL rfl rfl rfl hl.1 rfl (Nat.le_of_ble_eq_true rfl) d_AL_add1_7 ⟨by decide, by decide⟩) hS (fun E hw1 H locs hq hP hS => ?_)
  obtain ⟨jw1, jw2, jw3, jw4⟩ := hq
  have g2 : h E = none := hx.2 _ jw1
  have hx : ext h hw1 [L] := hx.trans jw4 (fun y hy => by
    simp only [List.mem_cons, List.not_mem_nil, or_false] at hy
    rcases hy with rfl
    · exact Or.inl (by simp))
  refine lv_astore_n F.1 F.2.1 d_AL_add1_10 rfl hl (by decide) rfl (fun ls hl => ?_)
  have hl : lv_has ls 4 [(2, .ref E), (0, .ref L), (1, .ref v), (3, .int 0)] := hl
  refine lv_aload_n F.1 F.2.1 d_AL_add1_11 rfl (lv_at hl 0 rfl) ?_
  refine lv_iload_n F.1 F.2.1 d_AL_add1_12 rfl (lv_at hl 3 rfl) ?_
  refine lv_aload_n F.1 F.2.1 d_AL_add1_13 rfl (lv_at hl 2 rfl) ?_
  refine W.eq (g2 := F0 m 14 ls [.ref v, .int (nI 0), .ref E]) (by rw [(show (0 : Int32) = nI 0 from by decide)]) ?_
  have f3 : hw1 v = some (.inr (3, vs)) := jw4.1 _ _ fv (nin1 (pu_t fv fL (show (3 : Nat) ≠ 0 by decide)))
  refine pw_astqON F hK.1 hP hS 5 3 jw2 rfl (hK.2.2.2.2.2.2.2.1 ("PatchDesk$Patch", "java/lang/Object") (by decide)) f3 rfl (k := 0) (by decide) (by decide) d_AL_add1_14 (fun H locs hP hS => ?_)
  have hP : pw D vwCl A (pu hw1 E (.inl (cs 5, 10, .inr (.inr (.inr (.inr (va_up (fun _ => none) 0 (some v)))))))) H := hP
  obtain ⟨h4, e5⟩ : ∃ z9 : pw_H, z9 = pu hw1 E (.inl (cs 5, 10, .inr (.inr (.inr (.inr (va_up (fun _ => none) 0 (some v))))))) := ⟨_, rfl⟩
  rw [← e5] at hP
  have hx : ext h h4 [L] := by rw [e5]; exact hx.pu (Or.inr g2)
  have f6 : h4 E = some (.inl (cs 5, 10, .inr (.inr (.inr (.inr (va_up (fun _ => none) 0 (some v))))))) := by rw [e5]; exact pu_s
  refine lv_aload_n F.1 F.2.1 d_AL_add1_15 rfl (lv_at hl 1 rfl) ?_
  refine lv_iload_n F.1 F.2.1 d_AL_add1_16 rfl (lv_at hl 3 rfl) ?_
  refine lv_iconst (v := 1) F.1 F.2.1 d_AL_add1_17 (by decide) ?_
  refine lv_iadd F.1 F.2.1 d_AL_add1_18 ?_
  have f7 : h4 L = some (.inr (0, [.ref E, .int 0, mc])) := by rw [e5]; exact pu_k jw3 (pu_t jw3 jw2 (show (0 : Nat) ≠ 310 by decide))
  refine pw_put F I_AL ty_AL k_AL n_AL hK.1 hP hS f7 rfl 1 (by decide) L_AL_48 (fun _ z => z) rfl rfl rfl (Nat.le_of_ble_eq_true rfl) d_AL_add1_19 (fun H locs hP hS => ?_)
  have hP : pw D vwCl A (pu h4 L (.inr (0, [.ref E, .int (0 + 1), mc]))) H := hP
  obtain ⟨h8, e9⟩ : ∃ z9 : pw_H, z9 = pu h4 L (.inr (0, [.ref E, .int (0 + 1), mc])) := ⟨_, rfl⟩
  rw [← e9] at hP
  have hx : ext h h8 [L] := by rw [e9]; exact hx.pu (Or.inl (by simp))
  have f10 : h8 L = some (.inr (0, [.ref E, .int (0 + 1), mc])) := by rw [e9]; exact pu_s
  have f11 : h8 E = some (.inl (cs 5, 10, .inr (.inr (.inr (.inr (va_up (fun _ => none) 0 (some v))))))) := by rw [e9]; exact pu_k f6 (pu_t f6 f7 (show (310 : Nat) ≠ 0 by decide))
  exact pw_vret F hr hlk hP hA hK hS (by decide) (by decide) d_AL_add1_22 ⟨E, g2, f11, f10, hx⟩
abbrev rm_AL_add1g_3 : Room := { frames := 0, cells := 0, slots := 0, locals := 0 }
set_option maxHeartbeats 4000000 in
set_option maxRecDepth 100000 in
theorem c_AL_add1g_3 (l : Launch) (D : va_G) (cs : Nat → Nat) (A : Nat → Prop) (h : pw_H) (L E v n : Nat) (vs : List Value) (mc : Value) (q : Nat → Option Nat) (hn : n < 10) (fL : h L = some (.inr (0, [.ref E, .int (nI n), mc]))) (fE : h E = some (.inl (cs 5, 10, .inr (.inr (.inr (.inr q)))))) (fv : h v = some (.inr (3, vs))) : pm l y_AL_add1 b_AL_add1 4 none rm_AL_add1g_3 [.ref L, .ref v, .ref E, .int (nI n)] D cs A h (va_Qv (fun (h' : pw_H) => h' E = some (.inl (cs 5, 10, .inr (.inr (.inr (.inr (va_up q n (some v))))))) ∧ h' L = some (.inr (0, [.ref E, .int (nI n + 1), mc])) ∧ ext h h' [L, E]) (ww D cs A) A) 0 0 := by
  refine pm_of R_AL rfl (by decide) (Nat.le_of_ble_eq_true rfl) (fun p e s m below meth c ls F hr hlk hnm hP hA hK hl => ?_)
  have hS : va_S A s.heap s.heap [] := va_S.rf
  have hl : lv_has ls 4 [(0, .ref L), (1, .ref v), (2, .ref E), (3, .int (nI n))] := hl
  have hx : ext h h [L, E] := ext.rf
  refine lv_iload_n F.1 F.2.1 d_AL_add1_0 rfl (lv_at hl 3 rfl) ?_
  refine lv_aload_n F.1 F.2.1 d_AL_add1_1 rfl (lv_at hl 2 rfl) ?_
  refine pw_alen F hK.1 hP 5 fE rfl (v := 10) (show Int32.ofNat 10 = 10 from by decide) d_AL_add1_2 ?_
  refine lv_icmp_ne (tgt := 11) F.1 F.2.1 d_AL_add1_3 (by decide) (fun c1 => ?_) (fun c1 => absurd c1 (fun z9 => by have := (nI_eq (a := n) (b := 10) (by omega) (by decide)).mp z9; omega))
  refine lv_aload_n F.1 F.2.1 d_AL_add1_11 rfl (lv_at hl 2 rfl) ?_
  refine lv_iload_n F.1 F.2.1 d_AL_add1_12 rfl (lv_at hl 3 rfl) ?_
  refine lv_aload_n F.1 F.2.1 d_AL_add1_13 rfl (lv_at hl 1 rfl) ?_
  refine pw_astqON F hK.1 hP hS 5 3 fE rfl (hK.2.2.2.2.2.2.2.1 ("PatchDesk$Patch", "java/lang/Object") (by decide)) fv rfl (k := n) hn (by decide) d_AL_add1_14 (fun H locs hP hS => ?_)
  have hP : pw D vwCl A (pu h E (.inl (cs 5, 10, .inr (.inr (.inr (.inr (va_up q n (some v)))))))) H := hP
  obtain ⟨h2, e3⟩ : ∃ z9 : pw_H, z9 = pu h E (.inl (cs 5, 10, .inr (.inr (.inr (.inr (va_up q n (some v))))))) := ⟨_, rfl⟩
  rw [← e3] at hP
  have hx : ext h h2 [L, E] := by rw [e3]; exact hx.pu (Or.inl (by simp))
  have f4 : h2 E = some (.inl (cs 5, 10, .inr (.inr (.inr (.inr (va_up q n (some v))))))) := by rw [e3]; exact pu_s
  refine lv_aload_n F.1 F.2.1 d_AL_add1_15 rfl (lv_at hl 0 rfl) ?_
  refine lv_iload_n F.1 F.2.1 d_AL_add1_16 rfl (lv_at hl 3 rfl) ?_
  refine lv_iconst (v := 1) F.1 F.2.1 d_AL_add1_17 (by decide) ?_
  refine lv_iadd F.1 F.2.1 d_AL_add1_18 ?_
  have f5 : h2 L = some (.inr (0, [.ref E, .int (nI n), mc])) := by rw [e3]; exact pu_k fL (pu_t fL fE (show (0 : Nat) ≠ 310 by decide))
  refine pw_put F I_AL ty_AL k_AL n_AL hK.1 hP hS f5 rfl 1 (by decide) L_AL_48 (fun _ z => z) rfl rfl rfl (Nat.le_of_ble_eq_true rfl) d_AL_add1_19 (fun H locs hP hS => ?_)
  have hP : pw D vwCl A (pu h2 L (.inr (0, [.ref E, .int ((nI n) + 1), mc]))) H := hP
  obtain ⟨h6, e7⟩ : ∃ z9 : pw_H, z9 = pu h2 L (.inr (0, [.ref E, .int ((nI n) + 1), mc])) := ⟨_, rfl⟩
  rw [← e7] at hP
  have hx : ext h h6 [L, E] := by rw [e7]; exact hx.pu (Or.inl (by simp))
  have f8 : h6 L = some (.inr (0, [.ref E, .int ((nI n) + 1), mc])) := by rw [e7]; exact pu_s
  have f9 : h6 E = some (.inl (cs 5, 10, .inr (.inr (.inr (.inr (va_up q n (some v))))))) := by rw [e7]; exact pu_k f4 (pu_t f4 f5 (show (310 : Nat) ≠ 0 by decide))
  exact pw_vret F hr hlk hP hA hK hS (by decide) (by decide) d_AL_add1_22 ⟨f9, f8, hx⟩
abbrev rm_AL_addf_3 : Room := { frames := 4, cells := 1, slots := 10, locals := 83 }
set_option maxHeartbeats 4000000 in
set_option maxRecDepth 100000 in
theorem c_AL_addf_3 (l : Launch) (D : va_G) (cs : Nat → Nat) (A : Nat → Prop) (h : pw_H) (L v : Nat) (vs : List Value) (mc : Int32) (fL : h L = some (.inr (0, [.ref (cs 9), .int 0, .int mc]))) (fv : h v = some (.inr (3, vs))) : pm l y_AL_add0 b_AL_add0 2 (some .boolean) rm_AL_addf_3 [.ref L, .ref v] D cs A h (va_Qi (fun (r : Int32) (h' : pw_H) => r = 1 ∧ ∃ E : Nat, h E = none ∧ h' E = some (.inl (cs 5, 10, .inr (.inr (.inr (.inr (va_up (fun _ => none) 0 (some v))))))) ∧ h' L = some (.inr (0, [.ref E, .int (0 + 1), .int (mc + 1)])) ∧ ext h h' [L]) (ww D cs A) A) 1 10 := by
  refine pm_of R_AL rfl (by decide) (Nat.le_of_ble_eq_true rfl) (fun p e s m below meth c ls F hr hlk hnm hP hA hK hl => ?_)
  have hS : va_S A s.heap s.heap [] := va_S.rf
  have hl : lv_has ls 2 [(0, .ref L), (1, .ref v)] := hl
  have hx : ext h h [L] := ext.rf
  refine lv_aload_n F.1 F.2.1 d_AL_add0_0 rfl (lv_at hl 0 rfl) ?_
  refine lv_dup F.1 F.2.1 d_AL_add0_1 rfl ?_
  refine pw_get F I_AL hK.1 hP fL rfl 2 (by decide) L_AL_63 (fun x9 h9 => u_same (F.2.2.2.2 _ sf_mod) x9 h9) rfl d_AL_add0_2 ?_
  refine lv_iconst (v := 1) F.1 F.2.1 d_AL_add0_5 (by decide) ?_
  refine lv_iadd F.1 F.2.1 d_AL_add0_6 ?_
  refine pw_put F I_AL ty_AL k_AL n_AL hK.1 hP hS fL rfl 2 (by decide) L_AL_63 (fun x9 h9 => u_same (F.2.2.2.2 _ sf_mod) x9 h9) rfl rfl rfl (Nat.le_of_ble_eq_true rfl) d_AL_add0_7 (fun H locs hP hS => ?_)
  have hP : pw D vwCl A (pu h L (.inr (0, [.ref (cs 9), .int 0, .int (mc + 1)]))) H := hP
  obtain ⟨h1, e2⟩ : ∃ z9 : pw_H, z9 = pu h L (.inr (0, [.ref (cs 9), .int 0, .int (mc + 1)])) := ⟨_, rfl⟩
  rw [← e2] at hP
  have hx : ext h h1 [L] := by rw [e2]; exact hx.pu (Or.inl (by simp))
  have f3 : h1 L = some (.inr (0, [.ref (cs 9), .int 0, .int (mc + 1)])) := by rw [e2]; exact pu_s
  refine lv_aload_n F.1 F.2.1 d_AL_add0_10 rfl (lv_at hl 0 rfl) ?_
  refine lv_aload_n F.1 F.2.1 d_AL_add0_11 rfl (lv_at hl 1 rfl) ?_
  refine lv_aload_n F.1 F.2.1 d_AL_add0_12 rfl (lv_at hl 0 rfl) ?_
  refine pw_get F I_AL hK.1 hP f3 rfl 0 (by decide) L_AL_9 (fun _ z => z) rfl d_AL_add0_13 ?_
  refine lv_aload_n F.1 F.2.1 d_AL_add0_16 rfl (lv_at hl 0 rfl) ?_
  refine pw_get F I_AL hK.1 hP f3 rfl 1 (by decide) L_AL_48 (fun _ z => z) rfl d_AL_add0_17 ?_
  have f4 : h1 v = some (.inr (3, vs)) := by rw [e2]; exact pu_k fv (pu_t fv fL (show (3 : Nat) ≠ 0 by decide))
  refine pw_cv (pr_V F (c_AL_add1f_3 l D cs A h1 L v vs _ f3 f4) X_AL_131 rfl rfl ⟨by decide, by decide⟩ hP hA hK hS f3 rfl rfl rfl hl.1 rfl (Nat.le_of_ble_eq_true rfl) d_AL_add0_20 ⟨by decide, by decide⟩) hS (fun hw1 H locs hq hP hS => ?_)
  obtain ⟨E, jw0, jw1, jw2, jw3⟩ := hq
  have g5 : h E = none := hx.2 _ jw0
  have hx : ext h hw1 [L] := hx.trans jw3 (fun y hy => by
    simp only [List.mem_cons, List.not_mem_nil, or_false] at hy
    rcases hy with rfl
    · exact Or.inl (by simp))
  refine lv_iconst (v := 1) F.1 F.2.1 d_AL_add0_23 (by decide) ?_
  exact pw_zret F hr rfl hlk hP hA hK hS (by decide) (by decide) d_AL_add0_24 ⟨rfl, E, g5, jw1, jw2, hx⟩
abbrev rm_AL_addg_3 : Room := { frames := 1, cells := 0, slots := 0, locals := 23 }
set_option maxHeartbeats 4000000 in
set_option maxRecDepth 100000 in
theorem c_AL_addg_3 (l : Launch) (D : va_G) (cs : Nat → Nat) (A : Nat → Prop) (h : pw_H) (L E v n : Nat) (vs : List Value) (mc : Int32) (q : Nat → Option Nat) (hn : n < 10) (fL : h L = some (.inr (0, [.ref E, .int (nI n), .int mc]))) (fE : h E = some (.inl (cs 5, 10, .inr (.inr (.inr (.inr q)))))) (fv : h v = some (.inr (3, vs))) : pm l y_AL_add0 b_AL_add0 2 (some .boolean) rm_AL_addg_3 [.ref L, .ref v] D cs A h (va_Qi (fun (r : Int32) (h' : pw_H) => r = 1 ∧ h' E = some (.inl (cs 5, 10, .inr (.inr (.inr (.inr (va_up q n (some v))))))) ∧ h' L = some (.inr (0, [.ref E, .int (nI n + 1), .int (mc + 1)])) ∧ ext h h' [L, E]) (ww D cs A) A) 0 0 := by
  refine pm_of R_AL rfl (by decide) (Nat.le_of_ble_eq_true rfl) (fun p e s m below meth c ls F hr hlk hnm hP hA hK hl => ?_)
  have hS : va_S A s.heap s.heap [] := va_S.rf
  have hl : lv_has ls 2 [(0, .ref L), (1, .ref v)] := hl
  have hx : ext h h [L, E] := ext.rf
  refine lv_aload_n F.1 F.2.1 d_AL_add0_0 rfl (lv_at hl 0 rfl) ?_
  refine lv_dup F.1 F.2.1 d_AL_add0_1 rfl ?_
  refine pw_get F I_AL hK.1 hP fL rfl 2 (by decide) L_AL_63 (fun x9 h9 => u_same (F.2.2.2.2 _ sf_mod) x9 h9) rfl d_AL_add0_2 ?_
  refine lv_iconst (v := 1) F.1 F.2.1 d_AL_add0_5 (by decide) ?_
  refine lv_iadd F.1 F.2.1 d_AL_add0_6 ?_
  refine pw_put F I_AL ty_AL k_AL n_AL hK.1 hP hS fL rfl 2 (by decide) L_AL_63 (fun x9 h9 => u_same (F.2.2.2.2 _ sf_mod) x9 h9) rfl rfl rfl (Nat.le_of_ble_eq_true rfl) d_AL_add0_7 (fun H locs hP hS => ?_)
  have hP : pw D vwCl A (pu h L (.inr (0, [.ref E, .int (nI n), .int (mc + 1)]))) H := hP
  obtain ⟨h1, e2⟩ : ∃ z9 : pw_H, z9 = pu h L (.inr (0, [.ref E, .int (nI n), .int (mc + 1)])) := ⟨_, rfl⟩
  rw [← e2] at hP
  have hx : ext h h1 [L, E] := by rw [e2]; exact hx.pu (Or.inl (by simp))
  have f3 : h1 L = some (.inr (0, [.ref E, .int (nI n), .int (mc + 1)])) := by rw [e2]; exact pu_s
  refine lv_aload_n F.1 F.2.1 d_AL_add0_10 rfl (lv_at hl 0 rfl) ?_
  refine lv_aload_n F.1 F.2.1 d_AL_add0_11 rfl (lv_at hl 1 rfl) ?_
  refine lv_aload_n F.1 F.2.1 d_AL_add0_12 rfl (lv_at hl 0 rfl) ?_
  refine pw_get F I_AL hK.1 hP f3 rfl 0 (by decide) L_AL_9 (fun _ z => z) rfl d_AL_add0_13 ?_
  refine lv_aload_n F.1 F.2.1 d_AL_add0_16 rfl (lv_at hl 0 rfl) ?_
  refine pw_get F I_AL hK.1 hP f3 rfl 1 (by decide) L_AL_48 (fun _ z => z) rfl d_AL_add0_17 ?_
  have f4 : h1 E = some (.inl (cs 5, 10, .inr (.inr (.inr (.inr q))))) := by rw [e2]; exact pu_k fE (pu_t fE fL (show (310 : Nat) ≠ 0 by decide))
  have f5 : h1 v = some (.inr (3, vs)) := by rw [e2]; exact pu_k fv (pu_t fv fL (show (3 : Nat) ≠ 0 by decide))
  refine pw_cv (pr_V F (c_AL_add1g_3 l D cs A h1 L E v n vs _ q hn f3 f4 f5) X_AL_131 rfl rfl ⟨by decide, by decide⟩ hP hA hK hS f3 rfl rfl rfl hl.1 rfl (Nat.le_of_ble_eq_true rfl) d_AL_add0_20 ⟨by decide, by decide⟩) hS (fun hw1 H locs hq hP hS => ?_)
  obtain ⟨jw1, jw2, jw3⟩ := hq
  have hx : ext h hw1 [L, E] := hx.trans jw3 (fun y hy => by
    simp only [List.mem_cons, List.not_mem_nil, or_false] at hy
    rcases hy with rfl | rfl
    · exact Or.inl (by simp)
    · exact Or.inl (by simp))
  refine lv_iconst (v := 1) F.1 F.2.1 d_AL_add0_23 (by decide) ?_
  exact pw_zret F hr rfl hlk hP hA hK hS (by decide) (by decide) d_AL_add0_24 ⟨rfl, jw1, jw2, hx⟩
abbrev rm_AL_add1f_5 : Room := { frames := 3, cells := 1, slots := 10, locals := 60 }
set_option maxHeartbeats 4000000 in
set_option maxRecDepth 100000 in
theorem c_AL_add1f_5 (l : Launch) (D : va_G) (cs : Nat → Nat) (A : Nat → Prop) (h : pw_H) (L v : Nat) (vs : List Value) (mc : Value) (fL : h L = some (.inr (0, [.ref (cs 9), .int 0, mc]))) (fv : h v = some (.inr (5, vs))) : pm l y_AL_add1 b_AL_add1 4 none rm_AL_add1f_5 [.ref L, .ref v, .ref (cs 9), .int 0] D cs A h (va_Qv (fun (h' : pw_H) => ∃ E : Nat, h E = none ∧ h' E = some (.inl (cs 5, 10, .inr (.inr (.inr (.inr (va_up (fun _ => none) 0 (some v))))))) ∧ h' L = some (.inr (0, [.ref E, .int (0 + 1), mc])) ∧ ext h h' [L]) (ww D cs A) A) 1 10 := by
  refine pm_of R_AL rfl (by decide) (Nat.le_of_ble_eq_true rfl) (fun p e s m below meth c ls F hr hlk hnm hP hA hK hl => ?_)
  have hS : va_S A s.heap s.heap [] := va_S.rf
  have hl : lv_has ls 4 [(0, .ref L), (1, .ref v), (2, .ref (cs 9)), (3, .int 0)] := hl
  have hx : ext h h [L] := ext.rf
  refine lv_iload_n F.1 F.2.1 d_AL_add1_0 rfl (lv_at hl 3 rfl) ?_
  refine lv_aload_n F.1 F.2.1 d_AL_add1_1 rfl (lv_at hl 2 rfl) ?_
  refine va_tlen (N := 0) F.1 F.2.1 hK.2.2.1 hS (v := 0) (by decide) d_AL_add1_2 ?_
  refine lv_icmp_ne (tgt := 11) F.1 F.2.1 d_AL_add1_3 (by decide) (fun c1 => absurd c1 (by decide)) (fun c1 => ?_)
  refine lv_aload_n F.1 F.2.1 d_AL_add1_6 rfl (lv_at hl 0 rfl) ?_
  refine pw_cr (post := fun r h' => h r = none ∧ h' r = some (.inl (cs 5, 10, .inr (.inr (.inr (.inr (fun _ => none)))))) ∧ h' L = some (.inr (0, [.ref r, .int 0, mc])) ∧ ext h h' [L]) (pr_V F (c_AL_grow0 l D cs A h L mc fL) X_AL_129 rfl rfl ⟨by decide, by decide⟩ hP hA hK hS fL rfl rfl rfl hl.1 rfl (Nat.le_of_ble_eq_true rfl) d_AL_add1_7 ⟨by decide, by decide⟩) hS (fun E hw1 H locs hq hP hS => ?_)
  obtain ⟨jw1, jw2, jw3, jw4⟩ := hq
  have g2 : h E = none := hx.2 _ jw1
  have hx : ext h hw1 [L] := hx.trans jw4 (fun y hy => by
    simp only [List.mem_cons, List.not_mem_nil, or_false] at hy
    rcases hy with rfl
    · exact Or.inl (by simp))
  refine lv_astore_n F.1 F.2.1 d_AL_add1_10 rfl hl (by decide) rfl (fun ls hl => ?_)
  have hl : lv_has ls 4 [(2, .ref E), (0, .ref L), (1, .ref v), (3, .int 0)] := hl
  refine lv_aload_n F.1 F.2.1 d_AL_add1_11 rfl (lv_at hl 0 rfl) ?_
  refine lv_iload_n F.1 F.2.1 d_AL_add1_12 rfl (lv_at hl 3 rfl) ?_
  refine lv_aload_n F.1 F.2.1 d_AL_add1_13 rfl (lv_at hl 2 rfl) ?_
  refine W.eq (g2 := F0 m 14 ls [.ref v, .int (nI 0), .ref E]) (by rw [(show (0 : Int32) = nI 0 from by decide)]) ?_
  have f3 : hw1 v = some (.inr (5, vs)) := jw4.1 _ _ fv (nin1 (pu_t fv fL (show (5 : Nat) ≠ 0 by decide)))
  refine pw_astqON F hK.1 hP hS 5 5 jw2 rfl (hK.2.2.2.2.2.2.2.1 ("PatchDesk$Task", "java/lang/Object") (by decide)) f3 rfl (k := 0) (by decide) (by decide) d_AL_add1_14 (fun H locs hP hS => ?_)
  have hP : pw D vwCl A (pu hw1 E (.inl (cs 5, 10, .inr (.inr (.inr (.inr (va_up (fun _ => none) 0 (some v)))))))) H := hP
  obtain ⟨h4, e5⟩ : ∃ z9 : pw_H, z9 = pu hw1 E (.inl (cs 5, 10, .inr (.inr (.inr (.inr (va_up (fun _ => none) 0 (some v))))))) := ⟨_, rfl⟩
  rw [← e5] at hP
  have hx : ext h h4 [L] := by rw [e5]; exact hx.pu (Or.inr g2)
  have f6 : h4 E = some (.inl (cs 5, 10, .inr (.inr (.inr (.inr (va_up (fun _ => none) 0 (some v))))))) := by rw [e5]; exact pu_s
  refine lv_aload_n F.1 F.2.1 d_AL_add1_15 rfl (lv_at hl 1 rfl) ?_
  refine lv_iload_n F.1 F.2.1 d_AL_add1_16 rfl (lv_at hl 3 rfl) ?_
  refine lv_iconst (v := 1) F.1 F.2.1 d_AL_add1_17 (by decide) ?_
  refine lv_iadd F.1 F.2.1 d_AL_add1_18 ?_
  have f7 : h4 L = some (.inr (0, [.ref E, .int 0, mc])) := by rw [e5]; exact pu_k jw3 (pu_t jw3 jw2 (show (0 : Nat) ≠ 310 by decide))
  refine pw_put F I_AL ty_AL k_AL n_AL hK.1 hP hS f7 rfl 1 (by decide) L_AL_48 (fun _ z => z) rfl rfl rfl (Nat.le_of_ble_eq_true rfl) d_AL_add1_19 (fun H locs hP hS => ?_)
  have hP : pw D vwCl A (pu h4 L (.inr (0, [.ref E, .int (0 + 1), mc]))) H := hP
  obtain ⟨h8, e9⟩ : ∃ z9 : pw_H, z9 = pu h4 L (.inr (0, [.ref E, .int (0 + 1), mc])) := ⟨_, rfl⟩
  rw [← e9] at hP
  have hx : ext h h8 [L] := by rw [e9]; exact hx.pu (Or.inl (by simp))
  have f10 : h8 L = some (.inr (0, [.ref E, .int (0 + 1), mc])) := by rw [e9]; exact pu_s
  have f11 : h8 E = some (.inl (cs 5, 10, .inr (.inr (.inr (.inr (va_up (fun _ => none) 0 (some v))))))) := by rw [e9]; exact pu_k f6 (pu_t f6 f7 (show (310 : Nat) ≠ 0 by decide))
  exact pw_vret F hr hlk hP hA hK hS (by decide) (by decide) d_AL_add1_22 ⟨E, g2, f11, f10, hx⟩
abbrev rm_AL_add1g_5 : Room := { frames := 0, cells := 0, slots := 0, locals := 0 }
set_option maxHeartbeats 4000000 in
set_option maxRecDepth 100000 in
theorem c_AL_add1g_5 (l : Launch) (D : va_G) (cs : Nat → Nat) (A : Nat → Prop) (h : pw_H) (L E v n : Nat) (vs : List Value) (mc : Value) (q : Nat → Option Nat) (hn : n < 10) (fL : h L = some (.inr (0, [.ref E, .int (nI n), mc]))) (fE : h E = some (.inl (cs 5, 10, .inr (.inr (.inr (.inr q)))))) (fv : h v = some (.inr (5, vs))) : pm l y_AL_add1 b_AL_add1 4 none rm_AL_add1g_5 [.ref L, .ref v, .ref E, .int (nI n)] D cs A h (va_Qv (fun (h' : pw_H) => h' E = some (.inl (cs 5, 10, .inr (.inr (.inr (.inr (va_up q n (some v))))))) ∧ h' L = some (.inr (0, [.ref E, .int (nI n + 1), mc])) ∧ ext h h' [L, E]) (ww D cs A) A) 0 0 := by
  refine pm_of R_AL rfl (by decide) (Nat.le_of_ble_eq_true rfl) (fun p e s m below meth c ls F hr hlk hnm hP hA hK hl => ?_)
  have hS : va_S A s.heap s.heap [] := va_S.rf
  have hl : lv_has ls 4 [(0, .ref L), (1, .ref v), (2, .ref E), (3, .int (nI n))] := hl
  have hx : ext h h [L, E] := ext.rf
  refine lv_iload_n F.1 F.2.1 d_AL_add1_0 rfl (lv_at hl 3 rfl) ?_
  refine lv_aload_n F.1 F.2.1 d_AL_add1_1 rfl (lv_at hl 2 rfl) ?_
  refine pw_alen F hK.1 hP 5 fE rfl (v := 10) (show Int32.ofNat 10 = 10 from by decide) d_AL_add1_2 ?_
  refine lv_icmp_ne (tgt := 11) F.1 F.2.1 d_AL_add1_3 (by decide) (fun c1 => ?_) (fun c1 => absurd c1 (fun z9 => by have := (nI_eq (a := n) (b := 10) (by omega) (by decide)).mp z9; omega))
  refine lv_aload_n F.1 F.2.1 d_AL_add1_11 rfl (lv_at hl 2 rfl) ?_
  refine lv_iload_n F.1 F.2.1 d_AL_add1_12 rfl (lv_at hl 3 rfl) ?_
  refine lv_aload_n F.1 F.2.1 d_AL_add1_13 rfl (lv_at hl 1 rfl) ?_
  refine pw_astqON F hK.1 hP hS 5 5 fE rfl (hK.2.2.2.2.2.2.2.1 ("PatchDesk$Task", "java/lang/Object") (by decide)) fv rfl (k := n) hn (by decide) d_AL_add1_14 (fun H locs hP hS => ?_)
  have hP : pw D vwCl A (pu h E (.inl (cs 5, 10, .inr (.inr (.inr (.inr (va_up q n (some v)))))))) H := hP
  obtain ⟨h2, e3⟩ : ∃ z9 : pw_H, z9 = pu h E (.inl (cs 5, 10, .inr (.inr (.inr (.inr (va_up q n (some v))))))) := ⟨_, rfl⟩
  rw [← e3] at hP
  have hx : ext h h2 [L, E] := by rw [e3]; exact hx.pu (Or.inl (by simp))
  have f4 : h2 E = some (.inl (cs 5, 10, .inr (.inr (.inr (.inr (va_up q n (some v))))))) := by rw [e3]; exact pu_s
  refine lv_aload_n F.1 F.2.1 d_AL_add1_15 rfl (lv_at hl 0 rfl) ?_
  refine lv_iload_n F.1 F.2.1 d_AL_add1_16 rfl (lv_at hl 3 rfl) ?_
  refine lv_iconst (v := 1) F.1 F.2.1 d_AL_add1_17 (by decide) ?_
  refine lv_iadd F.1 F.2.1 d_AL_add1_18 ?_
  have f5 : h2 L = some (.inr (0, [.ref E, .int (nI n), mc])) := by rw [e3]; exact pu_k fL (pu_t fL fE (show (0 : Nat) ≠ 310 by decide))
  refine pw_put F I_AL ty_AL k_AL n_AL hK.1 hP hS f5 rfl 1 (by decide) L_AL_48 (fun _ z => z) rfl rfl rfl (Nat.le_of_ble_eq_true rfl) d_AL_add1_19 (fun H locs hP hS => ?_)
  have hP : pw D vwCl A (pu h2 L (.inr (0, [.ref E, .int ((nI n) + 1), mc]))) H := hP
  obtain ⟨h6, e7⟩ : ∃ z9 : pw_H, z9 = pu h2 L (.inr (0, [.ref E, .int ((nI n) + 1), mc])) := ⟨_, rfl⟩
  rw [← e7] at hP
  have hx : ext h h6 [L, E] := by rw [e7]; exact hx.pu (Or.inl (by simp))
  have f8 : h6 L = some (.inr (0, [.ref E, .int ((nI n) + 1), mc])) := by rw [e7]; exact pu_s
  have f9 : h6 E = some (.inl (cs 5, 10, .inr (.inr (.inr (.inr (va_up q n (some v))))))) := by rw [e7]; exact pu_k f4 (pu_t f4 f5 (show (310 : Nat) ≠ 0 by decide))
  exact pw_vret F hr hlk hP hA hK hS (by decide) (by decide) d_AL_add1_22 ⟨f9, f8, hx⟩
abbrev rm_AL_addf_5 : Room := { frames := 4, cells := 1, slots := 10, locals := 83 }
set_option maxHeartbeats 4000000 in
set_option maxRecDepth 100000 in
theorem c_AL_addf_5 (l : Launch) (D : va_G) (cs : Nat → Nat) (A : Nat → Prop) (h : pw_H) (L v : Nat) (vs : List Value) (mc : Int32) (fL : h L = some (.inr (0, [.ref (cs 9), .int 0, .int mc]))) (fv : h v = some (.inr (5, vs))) : pm l y_AL_add0 b_AL_add0 2 (some .boolean) rm_AL_addf_5 [.ref L, .ref v] D cs A h (va_Qi (fun (r : Int32) (h' : pw_H) => r = 1 ∧ ∃ E : Nat, h E = none ∧ h' E = some (.inl (cs 5, 10, .inr (.inr (.inr (.inr (va_up (fun _ => none) 0 (some v))))))) ∧ h' L = some (.inr (0, [.ref E, .int (0 + 1), .int (mc + 1)])) ∧ ext h h' [L]) (ww D cs A) A) 1 10 := by
  refine pm_of R_AL rfl (by decide) (Nat.le_of_ble_eq_true rfl) (fun p e s m below meth c ls F hr hlk hnm hP hA hK hl => ?_)
  have hS : va_S A s.heap s.heap [] := va_S.rf
  have hl : lv_has ls 2 [(0, .ref L), (1, .ref v)] := hl
  have hx : ext h h [L] := ext.rf
  refine lv_aload_n F.1 F.2.1 d_AL_add0_0 rfl (lv_at hl 0 rfl) ?_
  refine lv_dup F.1 F.2.1 d_AL_add0_1 rfl ?_
  refine pw_get F I_AL hK.1 hP fL rfl 2 (by decide) L_AL_63 (fun x9 h9 => u_same (F.2.2.2.2 _ sf_mod) x9 h9) rfl d_AL_add0_2 ?_
  refine lv_iconst (v := 1) F.1 F.2.1 d_AL_add0_5 (by decide) ?_
  refine lv_iadd F.1 F.2.1 d_AL_add0_6 ?_
  refine pw_put F I_AL ty_AL k_AL n_AL hK.1 hP hS fL rfl 2 (by decide) L_AL_63 (fun x9 h9 => u_same (F.2.2.2.2 _ sf_mod) x9 h9) rfl rfl rfl (Nat.le_of_ble_eq_true rfl) d_AL_add0_7 (fun H locs hP hS => ?_)
  have hP : pw D vwCl A (pu h L (.inr (0, [.ref (cs 9), .int 0, .int (mc + 1)]))) H := hP
  obtain ⟨h1, e2⟩ : ∃ z9 : pw_H, z9 = pu h L (.inr (0, [.ref (cs 9), .int 0, .int (mc + 1)])) := ⟨_, rfl⟩
  rw [← e2] at hP
  have hx : ext h h1 [L] := by rw [e2]; exact hx.pu (Or.inl (by simp))
  have f3 : h1 L = some (.inr (0, [.ref (cs 9), .int 0, .int (mc + 1)])) := by rw [e2]; exact pu_s
  refine lv_aload_n F.1 F.2.1 d_AL_add0_10 rfl (lv_at hl 0 rfl) ?_
  refine lv_aload_n F.1 F.2.1 d_AL_add0_11 rfl (lv_at hl 1 rfl) ?_
  refine lv_aload_n F.1 F.2.1 d_AL_add0_12 rfl (lv_at hl 0 rfl) ?_
  refine pw_get F I_AL hK.1 hP f3 rfl 0 (by decide) L_AL_9 (fun _ z => z) rfl d_AL_add0_13 ?_
  refine lv_aload_n F.1 F.2.1 d_AL_add0_16 rfl (lv_at hl 0 rfl) ?_
  refine pw_get F I_AL hK.1 hP f3 rfl 1 (by decide) L_AL_48 (fun _ z => z) rfl d_AL_add0_17 ?_
  have f4 : h1 v = some (.inr (5, vs)) := by rw [e2]; exact pu_k fv (pu_t fv fL (show (5 : Nat) ≠ 0 by decide))
  refine pw_cv (pr_V F (c_AL_add1f_5 l D cs A h1 L v vs _ f3 f4) X_AL_131 rfl rfl ⟨by decide, by decide⟩ hP hA hK hS f3 rfl rfl rfl hl.1 rfl (Nat.le_of_ble_eq_true rfl) d_AL_add0_20 ⟨by decide, by decide⟩) hS (fun hw1 H locs hq hP hS => ?_)
  obtain ⟨E, jw0, jw1, jw2, jw3⟩ := hq
  have g5 : h E = none := hx.2 _ jw0
  have hx : ext h hw1 [L] := hx.trans jw3 (fun y hy => by
    simp only [List.mem_cons, List.not_mem_nil, or_false] at hy
    rcases hy with rfl
    · exact Or.inl (by simp))
  refine lv_iconst (v := 1) F.1 F.2.1 d_AL_add0_23 (by decide) ?_
  exact pw_zret F hr rfl hlk hP hA hK hS (by decide) (by decide) d_AL_add0_24 ⟨rfl, E, g5, jw1, jw2, hx⟩
abbrev rm_AL_addg_5 : Room := { frames := 1, cells := 0, slots := 0, locals := 23 }
set_option maxHeartbeats 4000000 in
set_option maxRecDepth 100000 in
theorem c_AL_addg_5 (l : Launch) (D : va_G) (cs : Nat → Nat) (A : Nat → Prop) (h : pw_H) (L E v n : Nat) (vs : List Value) (mc : Int32) (q : Nat → Option Nat) (hn : n < 10) (fL : h L = some (.inr (0, [.ref E, .int (nI n), .int mc]))) (fE : h E = some (.inl (cs 5, 10, .inr (.inr (.inr (.inr q)))))) (fv : h v = some (.inr (5, vs))) : pm l y_AL_add0 b_AL_add0 2 (some .boolean) rm_AL_addg_5 [.ref L, .ref v] D cs A h (va_Qi (fun (r : Int32) (h' : pw_H) => r = 1 ∧ h' E = some (.inl (cs 5, 10, .inr (.inr (.inr (.inr (va_up q n (some v))))))) ∧ h' L = some (.inr (0, [.ref E, .int (nI n + 1), .int (mc + 1)])) ∧ ext h h' [L, E]) (ww D cs A) A) 0 0 := by
  refine pm_of R_AL rfl (by decide) (Nat.le_of_ble_eq_true rfl) (fun p e s m below meth c ls F hr hlk hnm hP hA hK hl => ?_)
  have hS : va_S A s.heap s.heap [] := va_S.rf
  have hl : lv_has ls 2 [(0, .ref L), (1, .ref v)] := hl
  have hx : ext h h [L, E] := ext.rf
  refine lv_aload_n F.1 F.2.1 d_AL_add0_0 rfl (lv_at hl 0 rfl) ?_
  refine lv_dup F.1 F.2.1 d_AL_add0_1 rfl ?_
  refine pw_get F I_AL hK.1 hP fL rfl 2 (by decide) L_AL_63 (fun x9 h9 => u_same (F.2.2.2.2 _ sf_mod) x9 h9) rfl d_AL_add0_2 ?_
  refine lv_iconst (v := 1) F.1 F.2.1 d_AL_add0_5 (by decide) ?_
  refine lv_iadd F.1 F.2.1 d_AL_add0_6 ?_
  refine pw_put F I_AL ty_AL k_AL n_AL hK.1 hP hS fL rfl 2 (by decide) L_AL_63 (fun x9 h9 => u_same (F.2.2.2.2 _ sf_mod) x9 h9) rfl rfl rfl (Nat.le_of_ble_eq_true rfl) d_AL_add0_7 (fun H locs hP hS => ?_)
  have hP : pw D vwCl A (pu h L (.inr (0, [.ref E, .int (nI n), .int (mc + 1)]))) H := hP
  obtain ⟨h1, e2⟩ : ∃ z9 : pw_H, z9 = pu h L (.inr (0, [.ref E, .int (nI n), .int (mc + 1)])) := ⟨_, rfl⟩
  rw [← e2] at hP
  have hx : ext h h1 [L, E] := by rw [e2]; exact hx.pu (Or.inl (by simp))
  have f3 : h1 L = some (.inr (0, [.ref E, .int (nI n), .int (mc + 1)])) := by rw [e2]; exact pu_s
  refine lv_aload_n F.1 F.2.1 d_AL_add0_10 rfl (lv_at hl 0 rfl) ?_
  refine lv_aload_n F.1 F.2.1 d_AL_add0_11 rfl (lv_at hl 1 rfl) ?_
  refine lv_aload_n F.1 F.2.1 d_AL_add0_12 rfl (lv_at hl 0 rfl) ?_
  refine pw_get F I_AL hK.1 hP f3 rfl 0 (by decide) L_AL_9 (fun _ z => z) rfl d_AL_add0_13 ?_
  refine lv_aload_n F.1 F.2.1 d_AL_add0_16 rfl (lv_at hl 0 rfl) ?_
  refine pw_get F I_AL hK.1 hP f3 rfl 1 (by decide) L_AL_48 (fun _ z => z) rfl d_AL_add0_17 ?_
  have f4 : h1 E = some (.inl (cs 5, 10, .inr (.inr (.inr (.inr q))))) := by rw [e2]; exact pu_k fE (pu_t fE fL (show (310 : Nat) ≠ 0 by decide))
  have f5 : h1 v = some (.inr (5, vs)) := by rw [e2]; exact pu_k fv (pu_t fv fL (show (5 : Nat) ≠ 0 by decide))
  refine pw_cv (pr_V F (c_AL_add1g_5 l D cs A h1 L E v n vs _ q hn f3 f4 f5) X_AL_131 rfl rfl ⟨by decide, by decide⟩ hP hA hK hS f3 rfl rfl rfl hl.1 rfl (Nat.le_of_ble_eq_true rfl) d_AL_add0_20 ⟨by decide, by decide⟩) hS (fun hw1 H locs hq hP hS => ?_)
  obtain ⟨jw1, jw2, jw3⟩ := hq
  have hx : ext h hw1 [L, E] := hx.trans jw3 (fun y hy => by
    simp only [List.mem_cons, List.not_mem_nil, or_false] at hy
    rcases hy with rfl | rfl
    · exact Or.inl (by simp)
    · exact Or.inl (by simp))
  refine lv_iconst (v := 1) F.1 F.2.1 d_AL_add0_23 (by decide) ?_
  exact pw_zret F hr rfl hlk hP hA hK hS (by decide) (by decide) d_AL_add0_24 ⟨rfl, jw1, jw2, hx⟩
abbrev rm_AL_fastRemove : Room := { frames := 0, cells := 0, slots := 0, locals := 0 }
set_option maxHeartbeats 4000000 in
set_option maxRecDepth 100000 in
theorem c_AL_fastRemove (l : Launch) (D : va_G) (cs : Nat → Nat) (A : Nat → Prop) (h : pw_H) (L E k : Nat) (mc : Int32) (q : Nat → Option Nat) (hk : k < 10) (fL : h L = some (.inr (0, [.ref E, .int (nI (k + 1)), .int mc]))) (fE : h E = some (.inl (cs 5, 10, .inr (.inr (.inr (.inr q)))))) : pm l y_AL_fastRemove b_AL_fastRemove 4 none rm_AL_fastRemove [.ref L, .ref E, .int (nI k)] D cs A h (va_Qv (fun (h' : pw_H) => h' E = some (.inl (cs 5, 10, .inr (.inr (.inr (.inr (va_up q k none)))))) ∧ h' L = some (.inr (0, [.ref E, .int (nI k), .int (mc + 1)])) ∧ ext h h' [L, E]) (ww D cs A) A) 0 0 := by
  refine pm_of R_AL rfl (by decide) (Nat.le_of_ble_eq_true rfl) (fun p e s m below meth c ls F hr hlk hnm hP hA hK hl => ?_)
  have hS : va_S A s.heap s.heap [] := va_S.rf
  have hl : lv_has ls 4 [(0, .ref L), (1, .ref E), (2, .int (nI k))] := hl
  have hx : ext h h [L, E] := ext.rf
  refine lv_aload_n F.1 F.2.1 d_AL_fastRemove_0 rfl (lv_at hl 0 rfl) ?_
  refine lv_dup F.1 F.2.1 d_AL_fastRemove_1 rfl ?_
  refine pw_get F I_AL hK.1 hP fL rfl 2 (by decide) L_AL_63 (fun x9 h9 => u_same (F.2.2.2.2 _ sf_mod) x9 h9) rfl d_AL_fastRemove_2 ?_
  refine lv_iconst (v := 1) F.1 F.2.1 d_AL_fastRemove_5 (by decide) ?_
  refine lv_iadd F.1 F.2.1 d_AL_fastRemove_6 ?_
  refine pw_put F I_AL ty_AL k_AL n_AL hK.1 hP hS fL rfl 2 (by decide) L_AL_63 (fun x9 h9 => u_same (F.2.2.2.2 _ sf_mod) x9 h9) rfl rfl rfl (Nat.le_of_ble_eq_true rfl) d_AL_fastRemove_7 (fun H locs hP hS => ?_)
  have hP : pw D vwCl A (pu h L (.inr (0, [.ref E, .int (nI (k + 1)), .int (mc + 1)]))) H := hP
  obtain ⟨h1, e2⟩ : ∃ z9 : pw_H, z9 = pu h L (.inr (0, [.ref E, .int (nI (k + 1)), .int (mc + 1)])) := ⟨_, rfl⟩
  rw [← e2] at hP
  have hx : ext h h1 [L, E] := by rw [e2]; exact hx.pu (Or.inl (by simp))
  have f3 : h1 L = some (.inr (0, [.ref E, .int (nI (k + 1)), .int (mc + 1)])) := by rw [e2]; exact pu_s
  refine lv_aload_n F.1 F.2.1 d_AL_fastRemove_10 rfl (lv_at hl 0 rfl) ?_
  refine pw_get F I_AL hK.1 hP f3 rfl 1 (by decide) L_AL_48 (fun _ z => z) rfl d_AL_fastRemove_11 ?_
  refine lv_iconst (v := 1) F.1 F.2.1 d_AL_fastRemove_14 (by decide) ?_
  refine lv_isub F.1 F.2.1 d_AL_fastRemove_15 ?_
  refine W.eq (g2 := F0 m 16 ls [.int (nI k)]) (by rw [nI_pred]) ?_
  refine lv_dup F.1 F.2.1 d_AL_fastRemove_16 rfl ?_
  refine lv_istore_n F.1 F.2.1 d_AL_fastRemove_17 rfl hl (by decide) rfl (fun ls hl => ?_)
  have hl : lv_has ls 4 [(3, .int (nI k)), (0, .ref L), (1, .ref E), (2, .int (nI k))] := hl
  refine lv_iload_n F.1 F.2.1 d_AL_fastRemove_18 rfl (lv_at hl 3 rfl) ?_
  refine lv_icmp_le (tgt := 34) F.1 F.2.1 d_AL_fastRemove_19 (by decide) (fun c4 => ?_) (fun c4 => absurd (Int32.le_refl _) c4)
  refine lv_aload_n F.1 F.2.1 d_AL_fastRemove_34 rfl (lv_at hl 2 rfl) ?_
  refine lv_aload_n F.1 F.2.1 d_AL_fastRemove_35 rfl (lv_at hl 1 rfl) ?_
  refine lv_iload_n F.1 F.2.1 d_AL_fastRemove_36 rfl (lv_at hl 0 rfl) ?_
  refine lv_dup_x1 F.1 F.2.1 d_AL_fastRemove_37 rfl rfl ?_
  refine pw_put F I_AL ty_AL k_AL n_AL hK.1 hP hS f3 rfl 1 (by decide) L_AL_48 (fun _ z => z) rfl rfl rfl (Nat.le_of_ble_eq_true rfl) d_AL_fastRemove_38 (fun H locs hP hS => ?_)
  have hP : pw D vwCl A (pu h1 L (.inr (0, [.ref E, .int (nI k), .int (mc + 1)]))) H := hP
  obtain ⟨h5, e6⟩ : ∃ z9 : pw_H, z9 = pu h1 L (.inr (0, [.ref E, .int (nI k), .int (mc + 1)])) := ⟨_, rfl⟩
  rw [← e6] at hP
  have hx : ext h h5 [L, E] := by rw [e6]; exact hx.pu (Or.inl (by simp))
  have f7 : h5 L = some (.inr (0, [.ref E, .int (nI k), .int (mc + 1)])) := by rw [e6]; exact pu_s
  refine lv_null F.1 F.2.1 d_AL_fastRemove_41 ?_
  have f8 : h1 E = some (.inl (cs 5, 10, .inr (.inr (.inr (.inr q))))) := by rw [e2]; exact pu_k fE (pu_t fE fL (show (310 : Nat) ≠ 0 by decide))
  have f9 : h5 E = some (.inl (cs 5, 10, .inr (.inr (.inr (.inr q))))) := by rw [e6]; exact pu_k f8 (pu_t f8 f3 (show (310 : Nat) ≠ 0 by decide))
  refine pw_astqNN F hK.1 hP hS 5 f9 rfl (k := k) hk (by decide) d_AL_fastRemove_42 (fun H locs hP hS => ?_)
  have hP : pw D vwCl A (pu h5 E (.inl (cs 5, 10, .inr (.inr (.inr (.inr (va_up q k none))))))) H := hP
  obtain ⟨h10, e11⟩ : ∃ z9 : pw_H, z9 = pu h5 E (.inl (cs 5, 10, .inr (.inr (.inr (.inr (va_up q k none)))))) := ⟨_, rfl⟩
  rw [← e11] at hP
  have hx : ext h h10 [L, E] := by rw [e11]; exact hx.pu (Or.inl (by simp))
  have f12 : h10 E = some (.inl (cs 5, 10, .inr (.inr (.inr (.inr (va_up q k none)))))) := by rw [e11]; exact pu_s
  have f13 : h10 L = some (.inr (0, [.ref E, .int (nI k), .int (mc + 1)])) := by rw [e11]; exact pu_k f7 (pu_t f7 f9 (show (0 : Nat) ≠ 310 by decide))
  exact pw_vret F hr hlk hP hA hK hS (by decide) (by decide) d_AL_fastRemove_43 ⟨f12, f13, hx⟩
abbrev rm_AL_remove : Room := { frames := 2, cells := 0, slots := 0, locals := 43 }
set_option maxHeartbeats 4000000 in
set_option maxRecDepth 100000 in
theorem c_AL_remove (l : Launch) (D : va_G) (cs : Nat → Nat) (A : Nat → Prop) (h : pw_H) (L E k v : Nat) (mc : Int32) (q : Nat → Option Nat) (hk : k < 10) (hq : q k = some v) (fL : h L = some (.inr (0, [.ref E, .int (nI (k + 1)), .int mc]))) (fE : h E = some (.inl (cs 5, 10, .inr (.inr (.inr (.inr q)))))) : pm l y_AL_remove b_AL_remove 4 (some (.object "java/lang/Object")) rm_AL_remove [.ref L, .int (nI k)] D cs A h (va_Qr (fun _ => True) (fun (h' : pw_H) (r : Nat) (t : State) => (r = v ∧ h' E = some (.inl (cs 5, 10, .inr (.inr (.inr (.inr (va_up q k none)))))) ∧ h' L = some (.inr (0, [.ref E, .int (nI k), .int (mc + 1)])) ∧ ext h h' [L, E]) ∧ ww D cs A h' t) A) 0 0 := by
  refine pm_of R_AL rfl (by decide) (Nat.le_of_ble_eq_true rfl) (fun p e s m below meth c ls F hr hlk hnm hP hA hK hl => ?_)
  have hS : va_S A s.heap s.heap [] := va_S.rf
  have hl : lv_has ls 4 [(0, .ref L), (1, .int (nI k))] := hl
  have hx : ext h h [L, E] := ext.rf
  refine lv_iload_n F.1 F.2.1 d_AL_remove_0 rfl (lv_at hl 1 rfl) ?_
  refine lv_aload_n F.1 F.2.1 d_AL_remove_1 rfl (lv_at hl 0 rfl) ?_
  refine pw_get F I_AL hK.1 hP fL rfl 1 (by decide) L_AL_48 (fun _ z => z) rfl d_AL_remove_2 ?_
  refine pw_ciE (pr_S F (c_OB_checkIndex l D cs A h k (k + 1) (Nat.lt_succ_self k) (by omega)) X_AL_118 rfl rfl ⟨by decide, by decide⟩ hP hA hK hS rfl hl.1 rfl (Nat.le_of_ble_eq_true rfl) d_AL_remove_5 ⟨by decide, by decide⟩) hS (fun H locs hP hS => ?_)
  refine lv_pop F.1 F.2.1 d_AL_remove_8 rfl ?_
  refine lv_aload_n F.1 F.2.1 d_AL_remove_9 rfl (lv_at hl 0 rfl) ?_
  refine pw_get F I_AL hK.1 hP fL rfl 0 (by decide) L_AL_9 (fun _ z => z) rfl d_AL_remove_10 ?_
  refine lv_astore_n F.1 F.2.1 d_AL_remove_13 rfl hl (by decide) rfl (fun ls hl => ?_)
  have hl : lv_has ls 4 [(2, .ref E), (0, .ref L), (1, .int (nI k))] := hl
  refine lv_aload_n F.1 F.2.1 d_AL_remove_14 rfl (lv_at hl 0 rfl) ?_
  refine lv_iload_n F.1 F.2.1 d_AL_remove_15 rfl (lv_at hl 2 rfl) ?_
  refine pw_aldqN F hK.1 hP 5 fE rfl (k := k) hk (by decide) d_AL_remove_16 ?_
  refine W.eq (g2 := F0 m 17 ls [.ref v]) (by rw [hq]; rfl) ?_
  refine lv_astore_n F.1 F.2.1 d_AL_remove_17 rfl hl (by decide) rfl (fun ls hl => ?_)
  have hl : lv_has ls 4 [(3, .ref v), (2, .ref E), (0, .ref L), (1, .int (nI k))] := hl
  refine lv_aload_n F.1 F.2.1 d_AL_remove_18 rfl (lv_at hl 2 rfl) ?_
  refine lv_aload_n F.1 F.2.1 d_AL_remove_19 rfl (lv_at hl 1 rfl) ?_
  refine lv_iload_n F.1 F.2.1 d_AL_remove_20 rfl (lv_at hl 3 rfl) ?_
  refine pw_cv (pr_V F (c_AL_fastRemove l D cs A h L E k mc q hk fL fE) X_AL_144 rfl rfl ⟨by decide, by decide⟩ hP hA hK hS fL rfl rfl rfl hl.1 rfl (Nat.le_of_ble_eq_true rfl) d_AL_remove_21 ⟨by decide, by decide⟩) hS (fun hw1 H locs hq hP hS => ?_)
  obtain ⟨jw1, jw2, jw3⟩ := hq
  have hx : ext h hw1 [L, E] := hx.trans jw3 (fun y hy => by
    simp only [List.mem_cons, List.not_mem_nil, or_false] at hy
    rcases hy with rfl | rfl
    · exact Or.inl (by simp)
    · exact Or.inl (by simp))
  refine lv_aload_n F.1 F.2.1 d_AL_remove_24 rfl (lv_at hl 0 rfl) ?_
  exact pw_aret F hr (Or.inl ⟨_, rfl⟩) hlk hP hA hK hS (by decide) (by decide) d_AL_remove_25 ⟨rfl, jw1, jw2, hx⟩
end
section
/-! the reference's state as numbers: S k j is place j of its k-th array (0 has, 1 signature, 2 size, 3 kind, 4 number, 5 main, 6 levelOf, 7 sum, 8 steps, 9 outs, 10 latest, 11 depth, 12 row, 13 frameLevel, 14 at, 15 repeats); S 16 j its j-th number (0 thrown, 1 functions, 2 named, 3 top, 4 target, 5 tasks) -/
abbrev St : Type := Nat → Nat → Int32
abbrev tn (x : Int32) : Nat := x.toNatClampNeg
def sp (S : St) (k j : Nat) (v : Int32) : St := fun k' j' => if k' = k ∧ j' = j then v else S k' j'
theorem sp_s {S : St} {k j : Nat} {v : Int32} : sp S k j v k j = v := if_pos ⟨rfl, rfl⟩
theorem sp_k {S : St} {k j k' j' : Nat} {v : Int32} (h : k' ≠ k) : sp S k j v k' j' = S k' j' := if_neg (fun z => h z.1)
theorem sp_j {S : St} {k j k' j' : Nat} {v : Int32} (h : j' ≠ j) : sp S k j v k' j' = S k' j' := if_neg (fun z => h z.2)
theorem sp_row {S : St} {k j : Nat} {v : Int32} : sp S k j v k = upd (S k) j v := by
  funext x
  simp [sp, upd]
theorem sp_off {S : St} {k j k' : Nat} {v : Int32} (h : k' ≠ k) : sp S k j v k' = S k' := by
  funext x
  exact sp_k h
/-- the row of the body of a function at a level -/
def bRow (S : St) (f : Nat) : Nat → Nat
  | 0 => f
  | n + 1 => if S 0 (8 * (n + 1) + f) ≠ 0 then 8 * (n + 1) + f else bRow S f n
noncomputable def mEnter (S : St) (t f : Nat) : St :=
  if S 11 t = 6 then S else
    sp (sp (sp (sp (sp S 12 (6 * t + tn (S 11 t)) (nI (bRow S f (tn (S 6 t))))) 13 (6 * t + tn (S 11 t)) (S 6 t)) 14 (6 * t + tn (S 11 t)) 0) 15 (6 * t + tn (S 11 t)) 0) 11 t (S 11 t + 1)
def allOver (S : St) : Prop := ∀ t, t < tn (S 16 5) → S 6 t = S 16 4
noncomputable def mSettle (S : St) : St := by
  classical
  exact if allOver S then sp (sp S 16 3 (S 16 4)) 16 4 (-1) else S
def mClear (S : St) (t : Nat) : Prop := ∀ k, k < tn (S 11 t) → S 0 (8 * tn (S 16 3) + tn (S 12 (6 * t + k)) % 8) = 0
/-- the top frame's place -/
abbrev mTop (S : St) (t : Nat) : Nat := 6 * t + (tn (S 11 t) - 1)
abbrev mOp (S : St) (i : Nat) : Nat := 12 * tn (S 12 i) + tn (S 14 i)
abbrev mEnd (S : St) (i : Nat) : Prop := S 14 i = S 2 (tn (S 12 i))
def mGoes (S : St) (t : Nat) : Prop := ¬ S 16 4 < 0 ∧ ¬ S 6 t = S 16 4 ∧ ((mEnd S (mTop S t) ∧ S 11 t = 1) ∨ (¬ mEnd S (mTop S t) ∧ S 3 (mOp S (mTop S t)) = 2 ∧ mClear S t))
abbrev mEven (x : Int32) : Prop := x - x / 2 * 2 = 0
noncomputable def mDo (S : St) (t i : Nat) (k n : Int32) : St := by
  classical
  exact if k = 0 then sp S 7 t (S 7 t + n) else
    if k = 1 ∨ (k = 5 ∧ mEven (S 7 t)) then mEnter S t (tn n) else
    if k = 3 ∧ S 15 i < 3 then sp (sp S 15 i (S 15 i + 1)) 14 i n else
    if k = 4 then sp (sp S 9 t (S 9 t + 1)) 10 t (S 7 t) else S
noncomputable def mOnce (S : St) (t : Nat) : St := by
  classical
  exact if mEnd S (mTop S t) then
      (if S 11 t - 1 = 0 then mEnter (sp (sp S 8 t (S 8 t + 1)) 11 t (S 11 t - 1)) t (tn (S 5 t)) else sp (sp S 8 t (S 8 t + 1)) 11 t (S 11 t - 1))
    else mDo (sp (sp S 8 t (S 8 t + 1)) 14 (mTop S t) (S 14 (mTop S t) + 1)) t (mTop S t) (S 3 (mOp S (mTop S t))) (S 4 (mOp S (mTop S t)))
noncomputable def mRun (t : Nat) : Nat → Nat → St → Int32 → St × Int32
  | 0, _, S, w => (S, w)
  | n + 1, k, S, w => by
    classical
    exact if mGoes S t then mRun t n (k + 1) (mOnce (mSettle (sp S 6 t (S 16 4))) t) (nI k) else mRun t n (k + 1) (mOnce S t) w
/-- lo ≤ x ≤ hi -/
abbrev mIn (x lo hi : Int32) : Prop := lo ≤ x ∧ x ≤ hi
abbrev mFresh (S : St) : Prop := S 16 5 = 0 ∧ S 16 3 = 0
noncomputable def thFunction (S : St) (sg : Int32) : Int32 := by
  classical
  exact if ¬ mIn sg 0 9 then 1 else if S 16 1 = 8 ∨ ¬ mFresh S then 2 else 0
noncomputable def stFunction (S : St) (sg : Int32) : St :=
  if thFunction S sg = 0 then sp (sp (sp (sp (sp S 16 0 0) 0 (tn (S 16 1)) 1) 1 (tn (S 16 1)) sg) 2 (tn (S 16 1)) 0) 16 1 (S 16 1 + 1) else sp S 16 0 (thFunction S sg)
noncomputable def rFunction (S : St) (sg : Int32) : Int32 := if thFunction S sg = 0 then S 16 1 else 0
abbrev oRow (fn dr : Int32) : Nat := (if dr = 0 then 0 else 48) + tn fn
def gdOperation (S : St) (fn dr kd n : Int32) : Prop := mIn fn 0 7 ∧ mIn kd 0 5 ∧ ¬ S 0 (oRow fn dr) = 0 ∧ (kd = 0 → mIn n (-99) 99) ∧ (kd = 1 ∨ kd = 5 → mIn n 0 (S 16 1 - 1)) ∧ (kd = 3 → mIn n 0 (S 2 (oRow fn dr)))
noncomputable def thOperation (S : St) (fn dr kd n : Int32) : Int32 := by
  classical
  exact if ¬ gdOperation S fn dr kd n then 1 else if (dr = 0 ∧ ¬ mFresh S) ∨ S 2 (oRow fn dr) = 12 then 2 else 0
noncomputable def stOperation (S : St) (fn dr kd n : Int32) : St :=
  if thOperation S fn dr kd n = 0 then sp (sp (sp (sp S 16 0 0) 3 (12 * oRow fn dr + tn (S 2 (oRow fn dr))) kd) 4 (12 * oRow fn dr + tn (S 2 (oRow fn dr))) n) 2 (oRow fn dr) (S 2 (oRow fn dr) + 1) else sp S 16 0 (thOperation S fn dr kd n)
noncomputable def rOperation (S : St) (fn dr kd n : Int32) : Int32 := if thOperation S fn dr kd n = 0 then S 2 (oRow fn dr) + 1 else 0
noncomputable def thName (S : St) (fn sg : Int32) : Int32 := by
  classical
  exact if mIn fn 0 (S 16 1 - 1) ∧ mIn sg 0 9 ∧ S 0 (48 + tn fn) = 0 then 0 else 1
noncomputable def stName (S : St) (fn sg : Int32) : St :=
  if thName S fn sg = 0 then sp (sp (sp (sp (sp S 16 0 0) 0 (48 + tn fn) 1) 1 (48 + tn fn) sg) 2 (48 + tn fn) 0) 16 2 (S 16 2 + 1) else sp S 16 0 1
noncomputable def rName (S : St) (fn sg : Int32) : Int32 := if thName S fn sg = 0 then S 16 2 + 1 else 0
def mSame (S : St) : Prop := ∀ f, f < tn (S 16 1) → S 0 (48 + f) = 0 ∨ S 1 (48 + f) = S 1 f
noncomputable def thApply (S : St) : Int32 := by
  classical
  exact if S 16 2 = 0 then 1 else if ¬ mSame S then 2 else if ¬ S 16 4 < 0 ∨ S 16 3 = 5 then 3 else 0
/-- the draft's bodies become those of level L -/
def mMove (S : St) (L : Nat) : St := fun k j =>
  if (k = 0 ∨ k = 2) ∧ 8 * L ≤ j ∧ j < 8 * L + 8 then S k (48 + (j - 8 * L)) else
  if (k = 3 ∨ k = 4) ∧ 96 * L ≤ j ∧ j < 96 * L + 96 then S k (576 + (j - 96 * L)) else S k j
def mClr (S : St) : St := fun k j => if k = 0 ∧ 48 ≤ j ∧ j < 56 then 0 else S k j
noncomputable def stApply (S : St) : St :=
  if thApply S = 0 then mSettle (sp (sp (sp (mClr (mMove (sp S 16 0 0) (tn (S 16 3) + 1))) 16 2 0) 16 3 (S 16 3 + 1)) 16 4 (S 16 3 + 1)) else sp (mClr (sp S 16 0 (thApply S))) 16 2 0
noncomputable def rApply (S : St) : Int32 := if thApply S = 0 then S 16 3 + 1 else 0
noncomputable def thTurn (S : St) : Int32 := by
  classical
  exact if ¬ S 16 4 < 0 ∨ 0 < S 16 3 then 0 else 1
noncomputable def toTurn (S : St) : Int32 := if S 16 4 = S 16 3 - 1 then S 16 3 else S 16 3 - 1
noncomputable def stTurn (S : St) : St := if thTurn S = 0 then mSettle (sp (sp S 16 0 0) 16 4 (toTurn S)) else sp S 16 0 1
noncomputable def rTurn (S : St) : Int32 := if thTurn S = 0 then toTurn S else 0
noncomputable def thTask (S : St) (fn : Int32) : Int32 := by
  classical
  exact if ¬ mIn fn 0 (S 16 1 - 1) then 1 else if S 16 5 = 4 then 2 else 0
noncomputable def stTask (S : St) (fn : Int32) : St :=
  if thTask S fn = 0 then mEnter (sp (sp (sp (sp S 16 0 0) 5 (tn (S 16 5)) fn) 6 (tn (S 16 5)) (if S 16 4 < 0 then S 16 3 else S 16 4)) 16 5 (S 16 5 + 1)) (tn (S 16 5)) (tn fn) else sp S 16 0 (thTask S fn)
noncomputable def rTask (S : St) (fn : Int32) : Int32 := if thTask S fn = 0 then S 16 5 else 0
noncomputable def thStep (S : St) (t many : Int32) : Int32 := by
  classical
  exact if mIn t 0 (S 16 5 - 1) ∧ mIn many 1 100 then 0 else 1
noncomputable def stStep (S : St) (t many : Int32) : St := if thStep S t many = 0 then (mRun (tn t) (tn many) 1 (sp S 16 0 0) 0).1 else sp S 16 0 1
noncomputable def rStep (S : St) (t many : Int32) : Int32 := if thStep S t many = 0 then (mRun (tn t) (tn many) 1 (sp S 16 0 0) 0).2 else 0
noncomputable def thLook (S : St) (t w : Int32) : Int32 := by
  classical
  exact if mIn t 0 (S 16 5 - 1) ∧ mIn w 0 5 then 0 else 1
noncomputable def rLook (S : St) (t w : Int32) : Int32 :=
  if thLook S t w = 0 then (if w = 0 then S 6 (tn t) else if w = 1 then S 7 (tn t) else if w = 2 then S 11 (tn t) else if w = 3 then S 8 (tn t) else if w = 4 then S 9 (tn t) else S 10 (tn t)) else 0
noncomputable def thFrame (S : St) (t k w : Int32) : Int32 := by
  classical
  exact if ¬ (mIn t 0 (S 16 5 - 1) ∧ mIn w 0 2) then 1 else if mIn k 0 (S 11 (tn t) - 1) then 0 else 2
noncomputable def rFrame (S : St) (t k w : Int32) : Int32 :=
  if thFrame S t k w = 0 then (if w = 0 then nI (tn (S 12 (6 * tn t + tn k)) % 8) else if w = 1 then S 13 (6 * tn t + tn k) else S 14 (6 * tn t + tn k)) else 0
noncomputable def thBody (S : St) (fn lv : Int32) : Int32 := by
  classical
  exact if ¬ mIn fn 0 (S 16 1 - 1) then 1 else if mIn lv 0 (S 16 3) then 0 else 2
noncomputable def rBody (S : St) (fn lv : Int32) : Int32 := if thBody S fn lv = 0 then S 2 (bRow S (tn fn) (tn lv)) else 0
/-! the reference's object: its numbers and its sixteen arrays -/
def mlen (k : Nat) : Nat := if k < 3 then 56 else if k < 5 then 672 else if k < 12 then 4 else 24
def mcs (k : Nat) : Nat := if k = 0 then 1 else 0
abbrev mfs (ad : Nat → Nat) (S : St) : List Value := [.int (S 16 0), .int (S 16 1), .ref (ad 0), .ref (ad 1), .ref (ad 2), .ref (ad 3), .ref (ad 4), .int (S 16 2), .int (S 16 3), .int (S 16 4), .int (S 16 5), .ref (ad 5), .ref (ad 6), .ref (ad 7), .ref (ad 8), .ref (ad 9), .ref (ad 10), .ref (ad 11), .ref (ad 12), .ref (ad 13), .ref (ad 14), .ref (ad 15)]
def RM (cs : Nat → Nat) (h : pw_H) (m : Nat) (ad : Nat → Nat) (S : St) : Prop :=
  h m = some (.inr (7, mfs ad S)) ∧ (∀ k, k < 16 → h (ad k) = some (.inl (cs (mcs k), mlen k, .inl (S k)))) ∧ ∀ i j, i < 16 → j < 16 → ad i = ad j → i = j
theorem RM.ne {cs : Nat → Nat} {h : pw_H} {m : Nat} {ad : Nat → Nat} {S : St} (hR : RM cs h m ad S) {k : Nat} (hk : k < 16) : ad k ≠ m := fun z => by
  have h1 := hR.2.1 k hk
  rw [z, hR.1] at h1
  cases h1
theorem RM.arr {cs : Nat → Nat} {h : pw_H} {m : Nat} {ad : Nat → Nat} {S : St} (hR : RM cs h m ad S) {k : Nat} (hk : k < 16) (j : Nat) (v : Int32) : RM cs (pu h (ad k) (.inl (cs (mcs k), mlen k, .inl (upd (S k) j v)))) m ad (sp S k j v) := by
  refine ⟨?_, fun i hi => ?_, hR.2.2⟩
  · rw [pu_n (Ne.symm (hR.ne hk)), hR.1]
    have h16 : (16 : Nat) ≠ k := by omega
    simp only [mfs, sp_k h16]
  · by_cases hik : i = k
    · subst hik
      rw [pu_s, sp_row]
    · rw [pu_n (fun z => hik (hR.2.2 i k hi hk z)), hR.2.1 i hi, sp_off hik]
/-- the numbers' places among the fields -/
def mpos (j : Nat) : Nat := match j with
  | 0 => 0 | 1 => 1 | 2 => 7 | 3 => 8 | 4 => 9 | _ => 10
theorem RM.num {cs : Nat → Nat} {h : pw_H} {m : Nat} {ad : Nat → Nat} {S : St} (hR : RM cs h m ad S) {j : Nat} (hj : j < 6) (v : Int32) : RM cs (pu h m (.inr (7, (mfs ad S).set (mpos j) (.int v)))) m ad (sp S 16 j v) := by
  refine ⟨?_, fun i hi => ?_, hR.2.2⟩
  · rw [pu_s]
    rcases (show j = 0 ∨ j = 1 ∨ j = 2 ∨ j = 3 ∨ j = 4 ∨ j = 5 by omega) with rfl | rfl | rfl | rfl | rfl | rfl <;> rfl
  · have h16 : i ≠ 16 := by omega
    rw [pu_n (hR.ne hi), hR.2.1 i hi, sp_off h16]
end
section
theorem tn_nI {n : Nat} (h : n < 2 ^ 31) : tn (nI n) = n := nI_clamp h
theorem mSettle_t {S : St} {nt : Nat} (hT : S 16 5 = nI nt) (hn : nt ≤ 4) (hh : ∀ j, j < nt → S 6 j = S 16 4) : mSettle S = sp (sp S 16 3 (S 16 4)) 16 4 (-1) := by
  unfold mSettle
  rw [if_pos (show allOver S from fun t ht => hh t (by rw [hT, tn_nI (by omega)] at ht; exact ht))]
theorem mSettle_f {S : St} {nt : Nat} (hT : S 16 5 = nI nt) (hn : nt ≤ 4) (hh : ∃ j, j < nt ∧ ¬ S 6 j = S 16 4) : mSettle S = S := by
  unfold mSettle
  obtain ⟨j, hj, hne⟩ := hh
  rw [if_neg (show ¬ allOver S from fun z => hne (z j (by rw [hT, tn_nI (by omega)]; exact hj)))]
theorem mEnter_6 {S : St} {t f : Nat} (hd : S 11 t = 6) : mEnter S t f = S := by unfold mEnter; rw [if_pos hd]
theorem mEnter_go {S : St} {t f d L : Nat} (hd : S 11 t = nI d) (hd6 : d < 6) (hL : S 6 t = nI L) (hL5 : L ≤ 5) :
    mEnter S t f = sp (sp (sp (sp (sp S 12 (6 * t + d) (nI (bRow S f L))) 13 (6 * t + d) (nI L)) 14 (6 * t + d) 0) 15 (6 * t + d) 0) 11 t (nI (d + 1)) := by
  have h1 : ¬ S 11 t = 6 := fun z => by
    rw [hd] at z
    have := (nI_eq (a := d) (b := 6) (by omega) (by decide)).mp z
    omega
  unfold mEnter
  rw [if_neg h1, hd, hL, nI_1]
  simp only [tn_nI (show d < 2 ^ 31 by omega), tn_nI (show L < 2 ^ 31 by omega)]
abbrev rm_M_inn : Room := { frames := 0, cells := 0, slots := 0, locals := 0 }
set_option maxHeartbeats 4000000 in
set_option maxRecDepth 100000 in
theorem c_M_inn (l : Launch) (D : va_G) (cs : Nat → Nat) (A : Nat → Prop) (h : pw_H) (k lo hi : Int32) : pm l y_M_inn b_M_inn 3 (some .boolean) rm_M_inn [.int k, .int lo, .int hi] D cs A h (va_Qi (fun (r : Int32) (h' : pw_H) => h' = h ∧ r = (if lo ≤ k ∧ k ≤ hi then 1 else 0)) (ww D cs A) A) 0 0 := by
  refine pm_of R_M rfl (by decide) (Nat.le_of_ble_eq_true rfl) (fun p e s m below meth c ls F hr hlk hnm hP hA hK hl => ?_)
  have hS : va_S A s.heap s.heap [] := va_S.rf
  replace hl : lv_has ls 3 [(0, .int k), (1, .int lo), (2, .int hi)] := hl
  refine lv_iload_n F.1 F.2.1 d_M_inn_0 rfl (lv_at hl 0 rfl) ?_
  refine lv_iload_n F.1 F.2.1 d_M_inn_1 rfl (lv_at hl 1 rfl) ?_
  refine lv_icmp_lt (tgt := 14) F.1 F.2.1 d_M_inn_2 (by decide) (fun c1 => ?_) (fun c1 => ?_)
  · skip
    refine lv_iconst (v := 0) F.1 F.2.1 d_M_inn_14 (by decide) ?_
    exact pw_zret F hr rfl hlk hP hA hK hS (by decide) (by decide) d_M_inn_15 ⟨rfl, by rw [if_neg (fun z9 => absurd c1 (Int32.not_lt.mpr z9.1))]⟩
  · skip
    refine lv_iload_n F.1 F.2.1 d_M_inn_5 rfl (lv_at hl 0 rfl) ?_
    refine lv_iload_n F.1 F.2.1 d_M_inn_6 rfl (lv_at hl 2 rfl) ?_
    refine lv_icmp_gt (tgt := 14) F.1 F.2.1 d_M_inn_7 (by decide) (fun c2 => ?_) (fun c2 => ?_)
    · skip
      refine lv_iconst (v := 0) F.1 F.2.1 d_M_inn_14 (by decide) ?_
      exact pw_zret F hr rfl hlk hP hA hK hS (by decide) (by decide) d_M_inn_15 ⟨rfl, by rw [if_neg (fun z9 => absurd c2 (Int32.not_lt.mpr z9.2))]⟩
    · skip
      refine lv_iconst (v := 1) F.1 F.2.1 d_M_inn_10 (by decide) ?_
      refine lv_goto (tgt := 15) F.1 F.2.1 d_M_inn_11 (by decide) ?_
      exact pw_zret F hr rfl hlk hP hA hK hS (by decide) (by decide) d_M_inn_15 ⟨rfl, by rw [if_pos ⟨Int32.not_lt.mp c1, Int32.not_lt.mp c2⟩]⟩
abbrev rm_M_thrown : Room := { frames := 0, cells := 0, slots := 0, locals := 0 }
set_option maxHeartbeats 4000000 in
set_option maxRecDepth 100000 in
theorem c_M_thrown (l : Launch) (D : va_G) (cs : Nat → Nat) (A : Nat → Prop) (h : pw_H) (o : Nat) (ad : Nat → Nat) (S : St) (hR : RM cs h o ad S) : pm l y_M_thrown b_M_thrown 1 (some .int) rm_M_thrown [.ref o] D cs A h (va_Qi (fun (r : Int32) (h' : pw_H) => h' = h ∧ r = S 16 0) (ww D cs A) A) 0 0 := by
  refine pm_of R_M rfl (by decide) (Nat.le_of_ble_eq_true rfl) (fun p e s m below meth c ls F hr hlk hnm hP hA hK hl => ?_)
  have hS : va_S A s.heap s.heap [] := va_S.rf
  replace hl : lv_has ls 1 [(0, .ref o)] := hl
  refine lv_aload_n F.1 F.2.1 d_M_thrown_0 rfl (lv_at hl 0 rfl) ?_
  have f1 : h o = some (.inr (7, [.int (S 16 0), .int (S 16 1), .ref (ad 0), .ref (ad 1), .ref (ad 2), .ref (ad 3), .ref (ad 4), .int (S 16 2), .int (S 16 3), .int (S 16 4), .int (S 16 5), .ref (ad 5), .ref (ad 6), .ref (ad 7), .ref (ad 8), .ref (ad 9), .ref (ad 10), .ref (ad 11), .ref (ad 12), .ref (ad 13), .ref (ad 14), .ref (ad 15)])) := hR.1
  refine pw_get F I_M hK.1 hP f1 rfl 0 (by decide) L_M_63 (fun _ z => z) rfl d_M_thrown_1 ?_
  exact pw_iret F hr hlk hP hA hK hS (by decide) (by decide) d_M_thrown_4 ⟨rfl, rfl⟩
abbrev rm_M_patches : Room := { frames := 0, cells := 0, slots := 0, locals := 0 }
set_option maxHeartbeats 4000000 in
set_option maxRecDepth 100000 in
theorem c_M_patches (l : Launch) (D : va_G) (cs : Nat → Nat) (A : Nat → Prop) (h : pw_H) (o : Nat) (ad : Nat → Nat) (S : St) (hR : RM cs h o ad S) : pm l y_M_patches b_M_patches 1 (some .int) rm_M_patches [.ref o] D cs A h (va_Qi (fun (r : Int32) (h' : pw_H) => RM cs h' o ad (sp S 16 0 0) ∧ r = S 16 3) (ww D cs A) A) 0 0 := by
  refine pm_of R_M rfl (by decide) (Nat.le_of_ble_eq_true rfl) (fun p e s m below meth c ls F hr hlk hnm hP hA hK hl => ?_)
  have hS : va_S A s.heap s.heap [] := va_S.rf
  replace hl : lv_has ls 1 [(0, .ref o)] := hl
  refine lv_aload_n F.1 F.2.1 d_M_patches_0 rfl (lv_at hl 0 rfl) ?_
  refine lv_iconst (v := 0) F.1 F.2.1 d_M_patches_1 (by decide) ?_
  have f1 : h o = some (.inr (7, [.int (S 16 0), .int (S 16 1), .ref (ad 0), .ref (ad 1), .ref (ad 2), .ref (ad 3), .ref (ad 4), .int (S 16 2), .int (S 16 3), .int (S 16 4), .int (S 16 5), .ref (ad 5), .ref (ad 6), .ref (ad 7), .ref (ad 8), .ref (ad 9), .ref (ad 10), .ref (ad 11), .ref (ad 12), .ref (ad 13), .ref (ad 14), .ref (ad 15)])) := hR.1
  refine pw_put F I_M ty_M k_M n_M hK.1 hP hS f1 rfl 0 (by decide) L_M_63 (fun _ z => z) rfl rfl rfl (Nat.le_of_ble_eq_true rfl) d_M_patches_2 (fun H locs hP hS => ?_)
  have hP : pw D vwCl A (pu h o (.inr (7, (mfs ad S).set (mpos 0) (.int 0)))) H := hP
  have hR := hR.num (show 0 < 6 by decide) 0
  obtain ⟨h2, e3⟩ : ∃ z9 : pw_H, z9 = pu h o (.inr (7, (mfs ad S).set (mpos 0) (.int 0))) := ⟨_, rfl⟩
  rw [← e3] at hP
  obtain ⟨S4, t5⟩ : ∃ z9 : St, z9 = sp S 16 0 0 := ⟨_, rfl⟩
  have hR : RM cs h2 o ad S4 := by rw [e3, t5]; exact hR
  refine lv_aload_n F.1 F.2.1 d_M_patches_5 rfl (lv_at hl 0 rfl) ?_
  have f6 : h2 o = some (.inr (7, [.int (S4 16 0), .int (S4 16 1), .ref (ad 0), .ref (ad 1), .ref (ad 2), .ref (ad 3), .ref (ad 4), .int (S4 16 2), .int (S4 16 3), .int (S4 16 4), .int (S4 16 5), .ref (ad 5), .ref (ad 6), .ref (ad 7), .ref (ad 8), .ref (ad 9), .ref (ad 10), .ref (ad 11), .ref (ad 12), .ref (ad 13), .ref (ad 14), .ref (ad 15)])) := hR.1
  refine pw_get F I_M hK.1 hP f6 rfl 8 (by decide) L_M_69 (fun _ z => z) rfl d_M_patches_6 ?_
  refine W.eq (g2 := F0 m 9 ls [.int (S 16 3)]) (by rw [show S4 16 3 = S 16 3 from by rw [t5]; exact sp_j (by decide)]) ?_
  exact pw_iret F hr hlk hP hA hK hS (by decide) (by decide) d_M_patches_9 ⟨by rw [t5] at hR; exact hR, rfl⟩
abbrev rm_M_target : Room := { frames := 0, cells := 0, slots := 0, locals := 0 }
set_option maxHeartbeats 4000000 in
set_option maxRecDepth 100000 in
theorem c_M_target (l : Launch) (D : va_G) (cs : Nat → Nat) (A : Nat → Prop) (h : pw_H) (o : Nat) (ad : Nat → Nat) (S : St) (hR : RM cs h o ad S) : pm l y_M_target b_M_target 1 (some .int) rm_M_target [.ref o] D cs A h (va_Qi (fun (r : Int32) (h' : pw_H) => RM cs h' o ad (sp S 16 0 0) ∧ r = S 16 4) (ww D cs A) A) 0 0 := by
  refine pm_of R_M rfl (by decide) (Nat.le_of_ble_eq_true rfl) (fun p e s m below meth c ls F hr hlk hnm hP hA hK hl => ?_)
  have hS : va_S A s.heap s.heap [] := va_S.rf
  replace hl : lv_has ls 1 [(0, .ref o)] := hl
  refine lv_aload_n F.1 F.2.1 d_M_target_0 rfl (lv_at hl 0 rfl) ?_
  refine lv_iconst (v := 0) F.1 F.2.1 d_M_target_1 (by decide) ?_
  have f1 : h o = some (.inr (7, [.int (S 16 0), .int (S 16 1), .ref (ad 0), .ref (ad 1), .ref (ad 2), .ref (ad 3), .ref (ad 4), .int (S 16 2), .int (S 16 3), .int (S 16 4), .int (S 16 5), .ref (ad 5), .ref (ad 6), .ref (ad 7), .ref (ad 8), .ref (ad 9), .ref (ad 10), .ref (ad 11), .ref (ad 12), .ref (ad 13), .ref (ad 14), .ref (ad 15)])) := hR.1
  refine pw_put F I_M ty_M k_M n_M hK.1 hP hS f1 rfl 0 (by decide) L_M_63 (fun _ z => z) rfl rfl rfl (Nat.le_of_ble_eq_true rfl) d_M_target_2 (fun H locs hP hS => ?_)
  have hP : pw D vwCl A (pu h o (.inr (7, (mfs ad S).set (mpos 0) (.int 0)))) H := hP
  have hR := hR.num (show 0 < 6 by decide) 0
  obtain ⟨h2, e3⟩ : ∃ z9 : pw_H, z9 = pu h o (.inr (7, (mfs ad S).set (mpos 0) (.int 0))) := ⟨_, rfl⟩
  rw [← e3] at hP
  obtain ⟨S4, t5⟩ : ∃ z9 : St, z9 = sp S 16 0 0 := ⟨_, rfl⟩
  have hR : RM cs h2 o ad S4 := by rw [e3, t5]; exact hR
  refine lv_aload_n F.1 F.2.1 d_M_target_5 rfl (lv_at hl 0 rfl) ?_
  have f6 : h2 o = some (.inr (7, [.int (S4 16 0), .int (S4 16 1), .ref (ad 0), .ref (ad 1), .ref (ad 2), .ref (ad 3), .ref (ad 4), .int (S4 16 2), .int (S4 16 3), .int (S4 16 4), .int (S4 16 5), .ref (ad 5), .ref (ad 6), .ref (ad 7), .ref (ad 8), .ref (ad 9), .ref (ad 10), .ref (ad 11), .ref (ad 12), .ref (ad 13), .ref (ad 14), .ref (ad 15)])) := hR.1
  refine pw_get F I_M hK.1 hP f6 rfl 9 (by decide) L_M_26 (fun _ z => z) rfl d_M_target_6 ?_
  refine W.eq (g2 := F0 m 9 ls [.int (S 16 4)]) (by rw [show S4 16 4 = S 16 4 from by rw [t5]; exact sp_j (by decide)]) ?_
  exact pw_iret F hr hlk hP hA hK hS (by decide) (by decide) d_M_target_9 ⟨by rw [t5] at hR; exact hR, rfl⟩
abbrev rm_M_fail : Room := { frames := 0, cells := 0, slots := 0, locals := 0 }
set_option maxHeartbeats 4000000 in
set_option maxRecDepth 100000 in
theorem c_M_fail (l : Launch) (D : va_G) (cs : Nat → Nat) (A : Nat → Prop) (h : pw_H) (o : Nat) (ad : Nat → Nat) (S : St) (hR : RM cs h o ad S) (y : Int32) : pm l y_M_fail b_M_fail 2 (some .int) rm_M_fail [.ref o, .int y] D cs A h (va_Qi (fun (r : Int32) (h' : pw_H) => RM cs h' o ad (sp S 16 0 y) ∧ r = 0) (ww D cs A) A) 0 0 := by
  refine pm_of R_M rfl (by decide) (Nat.le_of_ble_eq_true rfl) (fun p e s m below meth c ls F hr hlk hnm hP hA hK hl => ?_)
  have hS : va_S A s.heap s.heap [] := va_S.rf
  replace hl : lv_has ls 2 [(0, .ref o), (1, .int y)] := hl
  refine lv_aload_n F.1 F.2.1 d_M_fail_0 rfl (lv_at hl 0 rfl) ?_
  refine lv_iload_n F.1 F.2.1 d_M_fail_1 rfl (lv_at hl 1 rfl) ?_
  have f1 : h o = some (.inr (7, [.int (S 16 0), .int (S 16 1), .ref (ad 0), .ref (ad 1), .ref (ad 2), .ref (ad 3), .ref (ad 4), .int (S 16 2), .int (S 16 3), .int (S 16 4), .int (S 16 5), .ref (ad 5), .ref (ad 6), .ref (ad 7), .ref (ad 8), .ref (ad 9), .ref (ad 10), .ref (ad 11), .ref (ad 12), .ref (ad 13), .ref (ad 14), .ref (ad 15)])) := hR.1
  refine pw_put F I_M ty_M k_M n_M hK.1 hP hS f1 rfl 0 (by decide) L_M_63 (fun _ z => z) rfl rfl rfl (Nat.le_of_ble_eq_true rfl) d_M_fail_2 (fun H locs hP hS => ?_)
  have hP : pw D vwCl A (pu h o (.inr (7, (mfs ad S).set (mpos 0) (.int y)))) H := hP
  have hR := hR.num (show 0 < 6 by decide) y
  obtain ⟨h2, e3⟩ : ∃ z9 : pw_H, z9 = pu h o (.inr (7, (mfs ad S).set (mpos 0) (.int y))) := ⟨_, rfl⟩
  rw [← e3] at hP
  obtain ⟨S4, t5⟩ : ∃ z9 : St, z9 = sp S 16 0 y := ⟨_, rfl⟩
  have hR : RM cs h2 o ad S4 := by rw [e3, t5]; exact hR
  refine lv_iconst (v := 0) F.1 F.2.1 d_M_fail_5 (by decide) ?_
  exact pw_iret F hr hlk hP hA hK hS (by decide) (by decide) d_M_fail_6 ⟨by rw [t5] at hR; exact hR, rfl⟩
abbrev rm_M_fresh : Room := { frames := 0, cells := 0, slots := 0, locals := 0 }
set_option maxHeartbeats 4000000 in
set_option maxRecDepth 100000 in
theorem c_M_fresh (l : Launch) (D : va_G) (cs : Nat → Nat) (A : Nat → Prop) (h : pw_H) (o : Nat) (ad : Nat → Nat) (S : St) (hR : RM cs h o ad S) : pm l y_M_fresh b_M_fresh 1 (some .boolean) rm_M_fresh [.ref o] D cs A h (va_Qi (fun (r : Int32) (h' : pw_H) => h' = h ∧ r = (if mFresh S then 1 else 0)) (ww D cs A) A) 0 0 := by
  refine pm_of R_M rfl (by decide) (Nat.le_of_ble_eq_true rfl) (fun p e s m below meth c ls F hr hlk hnm hP hA hK hl => ?_)
  have hS : va_S A s.heap s.heap [] := va_S.rf
  replace hl : lv_has ls 1 [(0, .ref o)] := hl
  refine lv_aload_n F.1 F.2.1 d_M_fresh_0 rfl (lv_at hl 0 rfl) ?_
  have f1 : h o = some (.inr (7, [.int (S 16 0), .int (S 16 1), .ref (ad 0), .ref (ad 1), .ref (ad 2), .ref (ad 3), .ref (ad 4), .int (S 16 2), .int (S 16 3), .int (S 16 4), .int (S 16 5), .ref (ad 5), .ref (ad 6), .ref (ad 7), .ref (ad 8), .ref (ad 9), .ref (ad 10), .ref (ad 11), .ref (ad 12), .ref (ad 13), .ref (ad 14), .ref (ad 15)])) := hR.1
  refine pw_get F I_M hK.1 hP f1 rfl 10 (by decide) L_M_66 (fun _ z => z) rfl d_M_fresh_1 ?_
  refine lv_if_ne (tgt := 18) F.1 F.2.1 d_M_fresh_4 (by decide) (fun c2 => ?_) (fun c2 => ?_)
  · skip
    refine lv_iconst (v := 0) F.1 F.2.1 d_M_fresh_18 (by decide) ?_
    exact pw_zret F hr rfl hlk hP hA hK hS (by decide) (by decide) d_M_fresh_19 ⟨rfl, by rw [if_neg (fun z9 => c2 z9.1)]⟩
  · skip
    refine lv_aload_n F.1 F.2.1 d_M_fresh_7 rfl (lv_at hl 0 rfl) ?_
    refine pw_get F I_M hK.1 hP f1 rfl 8 (by decide) L_M_69 (fun _ z => z) rfl d_M_fresh_8 ?_
    refine lv_if_ne (tgt := 18) F.1 F.2.1 d_M_fresh_11 (by decide) (fun c3 => ?_) (fun c3 => ?_)
    · skip
      refine lv_iconst (v := 0) F.1 F.2.1 d_M_fresh_18 (by decide) ?_
      exact pw_zret F hr rfl hlk hP hA hK hS (by decide) (by decide) d_M_fresh_19 ⟨rfl, by rw [if_neg (fun z9 => c3 z9.2)]⟩
    · skip
      refine lv_iconst (v := 1) F.1 F.2.1 d_M_fresh_14 (by decide) ?_
      refine lv_goto (tgt := 19) F.1 F.2.1 d_M_fresh_15 (by decide) ?_
      exact pw_zret F hr rfl hlk hP hA hK hS (by decide) (by decide) d_M_fresh_19 ⟨rfl, by rw [if_pos ⟨c2, c3⟩]⟩
abbrev rm_M_bodyRow : Room := { frames := 0, cells := 0, slots := 0, locals := 0 }
set_option maxHeartbeats 4000000 in
set_option maxRecDepth 100000 in
theorem c_M_bodyRow (l : Launch) (D : va_G) (cs : Nat → Nat) (A : Nat → Prop) (h : pw_H) (o : Nat) (ad : Nat → Nat) (S : St) (hR : RM cs h o ad S) (f L : Nat) (hf : f < 8) (hL : L ≤ 5) : pm l y_M_bodyRow b_M_bodyRow 5 (some .int) rm_M_bodyRow [.ref o, .int (nI f), .int (nI L)] D cs A h (va_Qi (fun (r : Int32) (h' : pw_H) => h' = h ∧ r = nI (bRow S f L)) (ww D cs A) A) 0 0 := by
  refine pm_of R_M rfl (by decide) (Nat.le_of_ble_eq_true rfl) (fun p e s m below meth c ls F hr hlk hnm hP hA hK hl => ?_)
  have hS : va_S A s.heap s.heap [] := va_S.rf
  replace hl : lv_has ls 5 [(0, .ref o), (1, .int (nI f)), (2, .int (nI L))] := hl
  refine lv_iload_n F.1 F.2.1 d_M_bodyRow_0 rfl (lv_at hl 1 rfl) ?_
  refine lv_istore_n F.1 F.2.1 d_M_bodyRow_1 rfl hl (by decide) rfl (fun ls hl => ?_)
  replace hl : lv_has ls 5 [(3, .int (nI f)), (0, .ref o), (1, .int (nI f)), (2, .int (nI L))] := hl
  refine lv_iconst (v := 1) F.1 F.2.1 d_M_bodyRow_2 (by decide) ?_
  refine lv_istore F.1 F.2.1 d_M_bodyRow_3 hl (by decide) rfl (fun ls hl => ?_)
  replace hl : lv_has ls 5 [(4, .int 1), (3, .int (nI f)), (0, .ref o), (1, .int (nI f)), (2, .int (nI L))] := hl
  obtain ⟨i, hi⟩ : ∃ i : Nat, i = 0 := ⟨0, rfl⟩
  have hiL : i ≤ L := by omega
  obtain ⟨n, hn⟩ : ∃ n : Nat, L - i = n := ⟨_, rfl⟩
  replace hl : lv_has ls 5 [(4, .int (nI (i + 1))), (3, .int (nI (bRow S f i))), (0, .ref o), (1, .int (nI f)), (2, .int (nI L))] := by rw [hi]; exact hl
  clear hi
  induction n generalizing ls i with
  | zero =>
    refine lv_iload F.1 F.2.1 d_M_bodyRow_5 (lv_at hl 0 rfl) ?_
    refine lv_iload_n F.1 F.2.1 d_M_bodyRow_7 rfl (lv_at hl 4 rfl) ?_
    refine lv_icmp_gt (tgt := 44) F.1 F.2.1 d_M_bodyRow_8 (by decide) (fun c1 => ?_) (fun c1 => absurd (nI_lt (show L < i + 1 by omega) (by omega)) c1)
    refine lv_iload_n F.1 F.2.1 d_M_bodyRow_44 rfl (lv_at hl 1 rfl) ?_
    exact pw_iret F hr hlk hP hA hK hS (by decide) (by decide) d_M_bodyRow_45 ⟨rfl, by rw [show i = L by omega]⟩
  | succ n ih =>
    refine lv_iload F.1 F.2.1 d_M_bodyRow_5 (lv_at hl 0 rfl) ?_
    refine lv_iload_n F.1 F.2.1 d_M_bodyRow_7 rfl (lv_at hl 4 rfl) ?_
    refine lv_icmp_gt (tgt := 44) F.1 F.2.1 d_M_bodyRow_8 (by decide) (fun c2 => absurd c2 (nI_nlt (show i + 1 ≤ L by omega) (by omega))) (fun c2 => ?_)
    refine lv_aload_n F.1 F.2.1 d_M_bodyRow_11 rfl (lv_at hl 2 rfl) ?_
    have f3 : h o = some (.inr (7, [.int (S 16 0), .int (S 16 1), .ref (ad 0), .ref (ad 1), .ref (ad 2), .ref (ad 3), .ref (ad 4), .int (S 16 2), .int (S 16 3), .int (S 16 4), .int (S 16 5), .ref (ad 5), .ref (ad 6), .ref (ad 7), .ref (ad 8), .ref (ad 9), .ref (ad 10), .ref (ad 11), .ref (ad 12), .ref (ad 13), .ref (ad 14), .ref (ad 15)])) := hR.1
    refine pw_get F I_M hK.1 hP f3 rfl 2 (by decide) L_M_7 (fun _ z => z) rfl d_M_bodyRow_12 ?_
    refine lv_bipush (v := 8) F.1 F.2.1 d_M_bodyRow_15 (by decide) ?_
    refine lv_iload F.1 F.2.1 d_M_bodyRow_17 (lv_at hl 0 rfl) ?_
    refine lv_imul F.1 F.2.1 d_M_bodyRow_19 ?_
    refine W.eq (g2 := F0 m 20 ls [.int (nI (8 * (i + 1))), .ref (ad 0)]) (by rw [show (8 : Int32) = nI 8 from rfl, pk_mul]) ?_
    refine lv_iload_n F.1 F.2.1 d_M_bodyRow_20 rfl (lv_at hl 3 rfl) ?_
    refine lv_iadd F.1 F.2.1 d_M_bodyRow_21 ?_
    refine W.eq (g2 := F0 m 22 ls [.int (nI ((8 * (i + 1)) + f)), .ref (ad 0)]) (by rw [nI_add]) ?_
    have f4 : h (ad 0) = some (.inl (cs 1, 56, .inl (S 0))) := hR.2.1 0 (by decide)
    refine pw_zaldN F hK.1 hP 1 f4 rfl (k := (8 * (i + 1)) + f) (by omega) (by decide) d_M_bodyRow_22 ?_
    refine lv_if_eq (tgt := 36) F.1 F.2.1 d_M_bodyRow_23 (by decide) (fun c5 => ?_) (fun c5 => ?_)
    · skip
      refine lv_iload_n F.1 F.2.1 d_M_bodyRow_36 rfl (lv_at hl 1 rfl) ?_
      refine W.eq (g2 := F0 m 37 ls [.int (nI (bRow S f (i + 1)))]) (by rw [show nI (bRow S f (i + 1)) = nI (bRow S f i) from by simp only [bRow]; rw [if_neg (fun z9 => z9 c5)]]) ?_
      refine lv_istore_n F.1 F.2.1 d_M_bodyRow_37 rfl hl (by decide) rfl (fun ls hl => ?_)
      replace hl : lv_has ls 5 [(3, .int (nI (bRow S f (i + 1)))), (4, .int (nI (i + 1))), (0, .ref o), (1, .int (nI f)), (2, .int (nI L))] := hl
      refine lv_iinc (k := 1) (v := nI (i + 1 + 1)) F.1 F.2.1 d_M_bodyRow_38 hl rfl (by rw [show Int32.ofInt 1 = nI 1 from rfl, nI_add]) (by decide) rfl (fun ls hl => ?_)
      replace hl : lv_has ls 5 [(4, .int (nI (i + 1 + 1))), (3, .int (nI (bRow S f (i + 1)))), (0, .ref o), (1, .int (nI f)), (2, .int (nI L))] := hl
      refine lv_goto (tgt := 5) F.1 F.2.1 d_M_bodyRow_41 (by decide) ?_
      exact ih (ls := ls) (i := i + 1) (by first | exact hl | omega) (by first | exact hl | omega) (by first | exact hl | omega)
    · skip
      refine lv_bipush (v := 8) F.1 F.2.1 d_M_bodyRow_26 (by decide) ?_
      refine lv_iload F.1 F.2.1 d_M_bodyRow_28 (lv_at hl 0 rfl) ?_
      refine lv_imul F.1 F.2.1 d_M_bodyRow_30 ?_
      refine W.eq (g2 := F0 m 31 ls [.int (nI (8 * (i + 1)))]) (by rw [show (8 : Int32) = nI 8 from rfl, pk_mul]) ?_
      refine lv_iload_n F.1 F.2.1 d_M_bodyRow_31 rfl (lv_at hl 3 rfl) ?_
      refine lv_iadd F.1 F.2.1 d_M_bodyRow_32 ?_
      refine W.eq (g2 := F0 m 33 ls [.int (nI ((8 * (i + 1)) + f))]) (by rw [nI_add]) ?_
      refine lv_goto (tgt := 37) F.1 F.2.1 d_M_bodyRow_33 (by decide) ?_
      refine W.eq (g2 := F0 m 37 ls [.int (nI (bRow S f (i + 1)))]) (by rw [show nI (bRow S f (i + 1)) = nI ((8 * (i + 1)) + f) from by simp only [bRow]; rw [if_pos c5]]) ?_
      refine lv_istore_n F.1 F.2.1 d_M_bodyRow_37 rfl hl (by decide) rfl (fun ls hl => ?_)
      replace hl : lv_has ls 5 [(3, .int (nI (bRow S f (i + 1)))), (4, .int (nI (i + 1))), (0, .ref o), (1, .int (nI f)), (2, .int (nI L))] := hl
      refine lv_iinc (k := 1) (v := nI (i + 1 + 1)) F.1 F.2.1 d_M_bodyRow_38 hl rfl (by rw [show Int32.ofInt 1 = nI 1 from rfl, nI_add]) (by decide) rfl (fun ls hl => ?_)
      replace hl : lv_has ls 5 [(4, .int (nI (i + 1 + 1))), (3, .int (nI (bRow S f (i + 1)))), (0, .ref o), (1, .int (nI f)), (2, .int (nI L))] := hl
      refine lv_goto (tgt := 5) F.1 F.2.1 d_M_bodyRow_41 (by decide) ?_
      exact ih (ls := ls) (i := i + 1) (by first | exact hl | omega) (by first | exact hl | omega) (by first | exact hl | omega)
abbrev rm_M_settle : Room := { frames := 0, cells := 0, slots := 0, locals := 0 }
set_option maxHeartbeats 4000000 in
set_option maxRecDepth 100000 in
theorem c_M_settle (l : Launch) (D : va_G) (cs : Nat → Nat) (A : Nat → Prop) (h : pw_H) (o : Nat) (ad : Nat → Nat) (S : St) (hR : RM cs h o ad S) (nt : Nat) (hnt : nt ≤ 4) (hT : S 16 5 = nI nt) : pm l y_M_settle b_M_settle 3 none rm_M_settle [.ref o] D cs A h (va_Qv (fun (h' : pw_H) => RM cs h' o ad (mSettle S)) (ww D cs A) A) 0 0 := by
  refine pm_of R_M rfl (by decide) (Nat.le_of_ble_eq_true rfl) (fun p e s m below meth c ls F hr hlk hnm hP hA hK hl => ?_)
  have hS : va_S A s.heap s.heap [] := va_S.rf
  replace hl : lv_has ls 3 [(0, .ref o)] := hl
  refine lv_iconst (v := 1) F.1 F.2.1 d_M_settle_0 (by decide) ?_
  refine lv_istore_n F.1 F.2.1 d_M_settle_1 rfl hl (by decide) rfl (fun ls hl => ?_)
  replace hl : lv_has ls 3 [(1, .int 1), (0, .ref o)] := hl
  refine lv_iconst (v := 0) F.1 F.2.1 d_M_settle_2 (by decide) ?_
  refine lv_istore_n F.1 F.2.1 d_M_settle_3 rfl hl (by decide) rfl (fun ls hl => ?_)
  replace hl : lv_has ls 3 [(2, .int 0), (1, .int 1), (0, .ref o)] := hl
  obtain ⟨t, ht0⟩ : ∃ t : Nat, t = 0 := ⟨0, rfl⟩
  obtain ⟨b, hb0⟩ : ∃ b : Int32, b = 1 := ⟨1, rfl⟩
  have hb : (b = 1 ∧ ∀ j, j < t → S 6 j = S 16 4) ∨ (b = 0 ∧ ∃ j, j < t ∧ ¬ S 6 j = S 16 4) := Or.inl ⟨hb0, fun j hj => by omega⟩
  have hle : t ≤ nt := by omega
  obtain ⟨n, hn⟩ : ∃ n : Nat, nt - t = n := ⟨_, rfl⟩
  replace hl : lv_has ls 3 [(2, .int (nI t)), (1, .int b), (0, .ref o)] := by rw [ht0, hb0]; exact hl
  clear ht0 hb0
  induction n generalizing ls t b with
  | zero =>
    refine lv_iload_n F.1 F.2.1 d_M_settle_4 rfl (lv_at hl 0 rfl) ?_
    refine lv_aload_n F.1 F.2.1 d_M_settle_5 rfl (lv_at hl 2 rfl) ?_
    have f1 : h o = some (.inr (7, [.int (S 16 0), .int (S 16 1), .ref (ad 0), .ref (ad 1), .ref (ad 2), .ref (ad 3), .ref (ad 4), .int (S 16 2), .int (S 16 3), .int (S 16 4), .int (S 16 5), .ref (ad 5), .ref (ad 6), .ref (ad 7), .ref (ad 8), .ref (ad 9), .ref (ad 10), .ref (ad 11), .ref (ad 12), .ref (ad 13), .ref (ad 14), .ref (ad 15)])) := hR.1
    refine pw_get F I_M hK.1 hP f1 rfl 10 (by decide) L_M_66 (fun _ z => z) rfl d_M_settle_6 ?_
    refine W.eq (g2 := F0 m 9 ls [.int (nI nt), .int (nI t)]) (by rw [hT]) ?_
    refine lv_icmp_ge (tgt := 41) F.1 F.2.1 d_M_settle_9 (by decide) (fun c2 => ?_) (fun c2 => absurd (nI_le (show nt ≤ t by omega) (by omega)) c2)
    refine lv_iload_n F.1 F.2.1 d_M_settle_41 rfl (lv_at hl 1 rfl) ?_
    refine lv_if_ne (tgt := 46) F.1 F.2.1 d_M_settle_42 (by decide) (fun c3 => ?_) (fun c3 => ?_)
    · skip
      refine lv_aload_n F.1 F.2.1 d_M_settle_46 rfl (lv_at hl 2 rfl) ?_
      refine lv_aload_n F.1 F.2.1 d_M_settle_47 rfl (lv_at hl 2 rfl) ?_
      refine pw_get F I_M hK.1 hP f1 rfl 9 (by decide) L_M_26 (fun _ z => z) rfl d_M_settle_48 ?_
      refine pw_put F I_M ty_M k_M n_M hK.1 hP hS f1 rfl 8 (by decide) L_M_69 (fun _ z => z) rfl rfl rfl (Nat.le_of_ble_eq_true rfl) d_M_settle_51 (fun H locs hP hS => ?_)
      have hP : pw D vwCl A (pu h o (.inr (7, (mfs ad S).set (mpos 3) (.int (S 16 4))))) H := hP
      have hR := hR.num (show 3 < 6 by decide) (S 16 4)
      obtain ⟨h4, e5⟩ : ∃ z9 : pw_H, z9 = pu h o (.inr (7, (mfs ad S).set (mpos 3) (.int (S 16 4)))) := ⟨_, rfl⟩
      rw [← e5] at hP
      obtain ⟨S6, t7⟩ : ∃ z9 : St, z9 = sp S 16 3 (S 16 4) := ⟨_, rfl⟩
      have hR : RM cs h4 o ad S6 := by rw [e5, t7]; exact hR
      refine lv_aload_n F.1 F.2.1 d_M_settle_54 rfl (lv_at hl 2 rfl) ?_
      refine lv_iconst (v := (-1)) F.1 F.2.1 d_M_settle_55 (by decide) ?_
      have f8 : h4 o = some (.inr (7, [.int (S6 16 0), .int (S6 16 1), .ref (ad 0), .ref (ad 1), .ref (ad 2), .ref (ad 3), .ref (ad 4), .int (S6 16 2), .int (S6 16 3), .int (S6 16 4), .int (S6 16 5), .ref (ad 5), .ref (ad 6), .ref (ad 7), .ref (ad 8), .ref (ad 9), .ref (ad 10), .ref (ad 11), .ref (ad 12), .ref (ad 13), .ref (ad 14), .ref (ad 15)])) := hR.1
      refine pw_put F I_M ty_M k_M n_M hK.1 hP hS f8 rfl 9 (by decide) L_M_26 (fun _ z => z) rfl rfl rfl (Nat.le_of_ble_eq_true rfl) d_M_settle_56 (fun H locs hP hS => ?_)
      have hP : pw D vwCl A (pu h4 o (.inr (7, (mfs ad S6).set (mpos 4) (.int (-1))))) H := hP
      have hR := hR.num (show 4 < 6 by decide) (-1)
      obtain ⟨h9, e10⟩ : ∃ z9 : pw_H, z9 = pu h4 o (.inr (7, (mfs ad S6).set (mpos 4) (.int (-1)))) := ⟨_, rfl⟩
      rw [← e10] at hP
      obtain ⟨S11, t12⟩ : ∃ z9 : St, z9 = sp S6 16 4 (-1) := ⟨_, rfl⟩
      have hR : RM cs h9 o ad S11 := by rw [e10, t12]; exact hR
      exact pw_vret F hr hlk hP hA hK hS (by decide) (by decide) d_M_settle_59 (by rw [t12, t7] at hR; rw [mSettle_t hT hnt (hb.elim (fun hb j hj => hb.2 j (by omega)) (fun hb => absurd hb.1 c3))]; exact hR)
    · skip
      exact pw_vret F hr hlk hP hA hK hS (by decide) (by decide) d_M_settle_45 (by rw [mSettle_f hT hnt (hb.elim (fun hb => absurd (hb.1.symm.trans c3) (by decide)) (fun hb => hb.2.elim (fun j h9 => ⟨j, by have := h9.1; omega, h9.2⟩)))]; exact hR)
  | succ n ih =>
    refine lv_iload_n F.1 F.2.1 d_M_settle_4 rfl (lv_at hl 0 rfl) ?_
    refine lv_aload_n F.1 F.2.1 d_M_settle_5 rfl (lv_at hl 2 rfl) ?_
    have f13 : h o = some (.inr (7, [.int (S 16 0), .int (S 16 1), .ref (ad 0), .ref (ad 1), .ref (ad 2), .ref (ad 3), .ref (ad 4), .int (S 16 2), .int (S 16 3), .int (S 16 4), .int (S 16 5), .ref (ad 5), .ref (ad 6), .ref (ad 7), .ref (ad 8), .ref (ad 9), .ref (ad 10), .ref (ad 11), .ref (ad 12), .ref (ad 13), .ref (ad 14), .ref (ad 15)])) := hR.1
    refine pw_get F I_M hK.1 hP f13 rfl 10 (by decide) L_M_66 (fun _ z => z) rfl d_M_settle_6 ?_
    refine W.eq (g2 := F0 m 9 ls [.int (nI nt), .int (nI t)]) (by rw [hT]) ?_
    refine lv_icmp_ge (tgt := 41) F.1 F.2.1 d_M_settle_9 (by decide) (fun c14 => absurd c14 (nI_ge (show t < nt by omega) (by omega))) (fun c14 => ?_)
    refine lv_iload_n F.1 F.2.1 d_M_settle_12 rfl (lv_at hl 1 rfl) ?_
    refine lv_if_eq (tgt := 33) F.1 F.2.1 d_M_settle_13 (by decide) (fun c15 => ?_) (fun c15 => ?_)
    · skip
      refine lv_iconst (v := 0) F.1 F.2.1 d_M_settle_33 (by decide) ?_
      refine lv_istore_n F.1 F.2.1 d_M_settle_34 rfl hl (by decide) rfl (fun ls hl => ?_)
      replace hl : lv_has ls 3 [(1, .int 0), (2, .int (nI t)), (0, .ref o)] := hl
      refine lv_iinc (k := 1) (v := nI (t + 1)) F.1 F.2.1 d_M_settle_35 hl rfl (by rw [show Int32.ofInt 1 = nI 1 from rfl, nI_add]) (by decide) rfl (fun ls hl => ?_)
      replace hl : lv_has ls 3 [(2, .int (nI (t + 1))), (1, .int 0), (0, .ref o)] := hl
      refine lv_goto (tgt := 4) F.1 F.2.1 d_M_settle_38 (by decide) ?_
      have hb9 : ((0 : Int32) = 1 ∧ ∀ j, j < t + 1 → S 6 j = S 16 4) ∨ ((0 : Int32) = 0 ∧ ∃ j, j < t + 1 ∧ ¬ S 6 j = S 16 4) := Or.inr ⟨rfl, hb.elim (fun hb => absurd (hb.1.symm.trans c15) (by decide)) (fun hb => hb.2.elim (fun j h9 => ⟨j, by have := h9.1; omega, h9.2⟩))⟩
      exact ih (ls := ls) (t := t + 1) (b := 0) (by first | exact hl | exact hb9 | omega) (by first | exact hl | exact hb9 | omega) (by first | exact hl | exact hb9 | omega) (by first | exact hl | exact hb9 | omega)
    · skip
      refine lv_aload_n F.1 F.2.1 d_M_settle_16 rfl (lv_at hl 2 rfl) ?_
      refine pw_get F I_M hK.1 hP f13 rfl 12 (by decide) L_M_33 (fun _ z => z) rfl d_M_settle_17 ?_
      refine lv_iload_n F.1 F.2.1 d_M_settle_20 rfl (lv_at hl 0 rfl) ?_
      have f16 : h (ad 6) = some (.inl (cs 0, 4, .inl (S 6))) := hR.2.1 6 (by decide)
      refine pw_ialdN F hK.1 hP 0 f16 rfl (k := t) (by omega) (by decide) d_M_settle_21 ?_
      refine lv_aload_n F.1 F.2.1 d_M_settle_22 rfl (lv_at hl 2 rfl) ?_
      refine pw_get F I_M hK.1 hP f13 rfl 9 (by decide) L_M_26 (fun _ z => z) rfl d_M_settle_23 ?_
      refine lv_icmp_ne (tgt := 33) F.1 F.2.1 d_M_settle_26 (by decide) (fun c17 => ?_) (fun c17 => ?_)
      · skip
        refine lv_iconst (v := 0) F.1 F.2.1 d_M_settle_33 (by decide) ?_
        refine lv_istore_n F.1 F.2.1 d_M_settle_34 rfl hl (by decide) rfl (fun ls hl => ?_)
        replace hl : lv_has ls 3 [(1, .int 0), (2, .int (nI t)), (0, .ref o)] := hl
        refine lv_iinc (k := 1) (v := nI (t + 1)) F.1 F.2.1 d_M_settle_35 hl rfl (by rw [show Int32.ofInt 1 = nI 1 from rfl, nI_add]) (by decide) rfl (fun ls hl => ?_)
        replace hl : lv_has ls 3 [(2, .int (nI (t + 1))), (1, .int 0), (0, .ref o)] := hl
        refine lv_goto (tgt := 4) F.1 F.2.1 d_M_settle_38 (by decide) ?_
        have hb9 : ((0 : Int32) = 1 ∧ ∀ j, j < t + 1 → S 6 j = S 16 4) ∨ ((0 : Int32) = 0 ∧ ∃ j, j < t + 1 ∧ ¬ S 6 j = S 16 4) := Or.inr ⟨rfl, t, by omega, c17⟩
        exact ih (ls := ls) (t := t + 1) (b := 0) (by first | exact hl | exact hb9 | omega) (by first | exact hl | exact hb9 | omega) (by first | exact hl | exact hb9 | omega) (by first | exact hl | exact hb9 | omega)
      · skip
        refine lv_iconst (v := 1) F.1 F.2.1 d_M_settle_29 (by decide) ?_
        refine lv_goto (tgt := 34) F.1 F.2.1 d_M_settle_30 (by decide) ?_
        refine lv_istore_n F.1 F.2.1 d_M_settle_34 rfl hl (by decide) rfl (fun ls hl => ?_)
        replace hl : lv_has ls 3 [(1, .int 1), (2, .int (nI t)), (0, .ref o)] := hl
        refine lv_iinc (k := 1) (v := nI (t + 1)) F.1 F.2.1 d_M_settle_35 hl rfl (by rw [show Int32.ofInt 1 = nI 1 from rfl, nI_add]) (by decide) rfl (fun ls hl => ?_)
        replace hl : lv_has ls 3 [(2, .int (nI (t + 1))), (1, .int 1), (0, .ref o)] := hl
        refine lv_goto (tgt := 4) F.1 F.2.1 d_M_settle_38 (by decide) ?_
        have hb9 : ((1 : Int32) = 1 ∧ ∀ j, j < t + 1 → S 6 j = S 16 4) ∨ ((1 : Int32) = 0 ∧ ∃ j, j < t + 1 ∧ ¬ S 6 j = S 16 4) := Or.inl ⟨rfl, fun j hj => hb.elim (fun hb => (Nat.lt_or_ge j t).elim (fun h9 => hb.2 j h9) (fun h9 => by rw [show j = t by omega]; exact c17)) (fun hb => absurd hb.1 c15)⟩
        exact ih (ls := ls) (t := t + 1) (b := 1) (by first | exact hl | exact hb9 | omega) (by first | exact hl | exact hb9 | omega) (by first | exact hl | exact hb9 | omega) (by first | exact hl | exact hb9 | omega)
abbrev rm_M_enter : Room := { frames := 1, cells := 0, slots := 0, locals := 24 }
set_option maxHeartbeats 4000000 in
set_option maxRecDepth 100000 in
theorem c_M_enter (l : Launch) (D : va_G) (cs : Nat → Nat) (A : Nat → Prop) (h : pw_H) (o : Nat) (ad : Nat → Nat) (S : St) (hR : RM cs h o ad S) (t f d L : Nat) (ht : t < 4) (hf : f < 8) (hd6 : d ≤ 6) (hL5 : L ≤ 5) (hd : S 11 t = nI d) (hL : S 6 t = nI L) : pm l y_M_enter b_M_enter 4 none rm_M_enter [.ref o, .int (nI t), .int (nI f)] D cs A h (va_Qv (fun (h' : pw_H) => RM cs h' o ad (mEnter S t f)) (ww D cs A) A) 0 0 := by
  refine pm_of R_M rfl (by decide) (Nat.le_of_ble_eq_true rfl) (fun p e s m below meth c ls F hr hlk hnm hP hA hK hl => ?_)
  have hS : va_S A s.heap s.heap [] := va_S.rf
  replace hl : lv_has ls 4 [(0, .ref o), (1, .int (nI t)), (2, .int (nI f))] := hl
  refine lv_aload_n F.1 F.2.1 d_M_enter_0 rfl (lv_at hl 0 rfl) ?_
  have f1 : h o = some (.inr (7, [.int (S 16 0), .int (S 16 1), .ref (ad 0), .ref (ad 1), .ref (ad 2), .ref (ad 3), .ref (ad 4), .int (S 16 2), .int (S 16 3), .int (S 16 4), .int (S 16 5), .ref (ad 5), .ref (ad 6), .ref (ad 7), .ref (ad 8), .ref (ad 9), .ref (ad 10), .ref (ad 11), .ref (ad 12), .ref (ad 13), .ref (ad 14), .ref (ad 15)])) := hR.1
  refine pw_get F I_M hK.1 hP f1 rfl 17 (by decide) L_M_48 (fun _ z => z) rfl d_M_enter_1 ?_
  refine lv_iload_n F.1 F.2.1 d_M_enter_4 rfl (lv_at hl 1 rfl) ?_
  have f2 : h (ad 11) = some (.inl (cs 0, 4, .inl (S 11))) := hR.2.1 11 (by decide)
  refine pw_ialdN F hK.1 hP 0 f2 rfl (k := t) (by omega) (by decide) d_M_enter_5 ?_
  refine W.eq (g2 := F0 m 6 ls [.int (nI d)]) (by rw [hd]) ?_
  refine lv_bipush (v := 6) F.1 F.2.1 d_M_enter_6 (by decide) ?_
  refine lv_icmp_ne (tgt := 12) F.1 F.2.1 d_M_enter_8 (by decide) (fun c3 => ?_) (fun c3 => ?_)
  · skip
    have hlt : d < 6 := by
      rcases Nat.lt_or_ge d 6 with h9 | h9
      · exact h9
      · exact absurd (show nI d = 6 by rw [show d = 6 by omega]; rfl) c3
    refine lv_bipush (v := 6) F.1 F.2.1 d_M_enter_12 (by decide) ?_
    refine lv_iload_n F.1 F.2.1 d_M_enter_14 rfl (lv_at hl 1 rfl) ?_
    refine lv_imul F.1 F.2.1 d_M_enter_15 ?_
    refine W.eq (g2 := F0 m 16 ls [.int (nI (6 * t))]) (by rw [show (6 : Int32) = nI 6 from rfl, pk_mul]) ?_
    refine lv_aload_n F.1 F.2.1 d_M_enter_16 rfl (lv_at hl 0 rfl) ?_
    refine pw_get F I_M hK.1 hP f1 rfl 17 (by decide) L_M_48 (fun _ z => z) rfl d_M_enter_17 ?_
    refine lv_iload_n F.1 F.2.1 d_M_enter_20 rfl (lv_at hl 1 rfl) ?_
    refine pw_ialdN F hK.1 hP 0 f2 rfl (k := t) (by omega) (by decide) d_M_enter_21 ?_
    refine W.eq (g2 := F0 m 22 ls [.int (nI d), .int (nI (6 * t))]) (by rw [hd]) ?_
    refine lv_iadd F.1 F.2.1 d_M_enter_22 ?_
    refine W.eq (g2 := F0 m 23 ls [.int (nI (6 * t + d))]) (by rw [nI_add]) ?_
    refine lv_istore_n F.1 F.2.1 d_M_enter_23 rfl hl (by decide) rfl (fun ls hl => ?_)
    replace hl : lv_has ls 4 [(3, .int (nI (6 * t + d))), (0, .ref o), (1, .int (nI t)), (2, .int (nI f))] := hl
    refine lv_aload_n F.1 F.2.1 d_M_enter_24 rfl (lv_at hl 1 rfl) ?_
    refine pw_get F I_M hK.1 hP f1 rfl 18 (by decide) L_M_51 (fun _ z => z) rfl d_M_enter_25 ?_
    refine lv_iload_n F.1 F.2.1 d_M_enter_28 rfl (lv_at hl 0 rfl) ?_
    refine lv_aload_n F.1 F.2.1 d_M_enter_29 rfl (lv_at hl 1 rfl) ?_
    refine lv_iload_n F.1 F.2.1 d_M_enter_30 rfl (lv_at hl 3 rfl) ?_
    refine lv_aload_n F.1 F.2.1 d_M_enter_31 rfl (lv_at hl 1 rfl) ?_
    refine pw_get F I_M hK.1 hP f1 rfl 12 (by decide) L_M_33 (fun _ z => z) rfl d_M_enter_32 ?_
    refine lv_iload_n F.1 F.2.1 d_M_enter_35 rfl (lv_at hl 2 rfl) ?_
    have f4 : h (ad 6) = some (.inl (cs 0, 4, .inl (S 6))) := hR.2.1 6 (by decide)
    refine pw_ialdN F hK.1 hP 0 f4 rfl (k := t) (by omega) (by decide) d_M_enter_36 ?_
    refine W.eq (g2 := F0 m 37 ls [.int (nI L), .int (nI f), .ref o, .int (nI (6 * t + d)), .ref (ad 12)]) (by rw [hL]) ?_
    refine pw_ciE (pr_V F (c_M_bodyRow l D cs A h o ad S hR f L hf hL5) X_M_93 rfl rfl ⟨by decide, by decide⟩ hP hA hK hS f1 rfl rfl rfl hl.1 rfl (Nat.le_of_ble_eq_true rfl) d_M_enter_37 ⟨by decide, by decide⟩) hS (fun H locs hP hS => ?_)
    have f5 : h (ad 12) = some (.inl (cs 0, 24, .inl (S 12))) := hR.2.1 12 (by decide)
    refine pw_iastN F hK.1 hP hS 0 f5 rfl (k := 6 * t + d) (by omega) (by decide) d_M_enter_40 (fun H locs hP hS => ?_)
    have hP : pw D vwCl A (pu h (ad 12) (.inl (cs 0, 24, .inl (upd (S 12) (6 * t + d) (nI (bRow S f L)))))) H := hP
    have hR := hR.arr (show 12 < 16 by decide) (6 * t + d) (nI (bRow S f L))
    obtain ⟨h6, e7⟩ : ∃ z9 : pw_H, z9 = pu h (ad 12) (.inl (cs 0, 24, .inl (upd (S 12) (6 * t + d) (nI (bRow S f L))))) := ⟨_, rfl⟩
    rw [← e7] at hP
    obtain ⟨S8, t9⟩ : ∃ z9 : St, z9 = sp S 12 (6 * t + d) (nI (bRow S f L)) := ⟨_, rfl⟩
    have hR : RM cs h6 o ad S8 := by rw [e7, t9]; exact hR
    refine lv_aload_n F.1 F.2.1 d_M_enter_41 rfl (lv_at hl 1 rfl) ?_
    have f10 : h6 o = some (.inr (7, [.int (S8 16 0), .int (S8 16 1), .ref (ad 0), .ref (ad 1), .ref (ad 2), .ref (ad 3), .ref (ad 4), .int (S8 16 2), .int (S8 16 3), .int (S8 16 4), .int (S8 16 5), .ref (ad 5), .ref (ad 6), .ref (ad 7), .ref (ad 8), .ref (ad 9), .ref (ad 10), .ref (ad 11), .ref (ad 12), .ref (ad 13), .ref (ad 14), .ref (ad 15)])) := hR.1
    refine pw_get F I_M hK.1 hP f10 rfl 19 (by decide) L_M_54 (fun _ z => z) rfl d_M_enter_42 ?_
    refine lv_iload_n F.1 F.2.1 d_M_enter_45 rfl (lv_at hl 0 rfl) ?_
    refine lv_aload_n F.1 F.2.1 d_M_enter_46 rfl (lv_at hl 1 rfl) ?_
    refine pw_get F I_M hK.1 hP f10 rfl 12 (by decide) L_M_33 (fun _ z => z) rfl d_M_enter_47 ?_
    refine lv_iload_n F.1 F.2.1 d_M_enter_50 rfl (lv_at hl 2 rfl) ?_
    have f11 : h6 (ad 6) = some (.inl (cs 0, 4, .inl (S8 6))) := hR.2.1 6 (by decide)
    refine pw_ialdN F hK.1 hP 0 f11 rfl (k := t) (by omega) (by decide) d_M_enter_51 ?_
    refine W.eq (g2 := F0 m 52 ls [.int (nI L), .int (nI (6 * t + d)), .ref (ad 13)]) (by rw [show S8 6 t = S 6 t from by rw [t9]; exact sp_k (by decide), hL]) ?_
    have f12 : h6 (ad 13) = some (.inl (cs 0, 24, .inl (S8 13))) := hR.2.1 13 (by decide)
    refine pw_iastN F hK.1 hP hS 0 f12 rfl (k := 6 * t + d) (by omega) (by decide) d_M_enter_52 (fun H locs hP hS => ?_)
    have hP : pw D vwCl A (pu h6 (ad 13) (.inl (cs 0, 24, .inl (upd (S8 13) (6 * t + d) (nI L))))) H := hP
    have hR := hR.arr (show 13 < 16 by decide) (6 * t + d) (nI L)
    obtain ⟨h13, e14⟩ : ∃ z9 : pw_H, z9 = pu h6 (ad 13) (.inl (cs 0, 24, .inl (upd (S8 13) (6 * t + d) (nI L)))) := ⟨_, rfl⟩
    rw [← e14] at hP
    obtain ⟨S15, t16⟩ : ∃ z9 : St, z9 = sp S8 13 (6 * t + d) (nI L) := ⟨_, rfl⟩
    have hR : RM cs h13 o ad S15 := by rw [e14, t16]; exact hR
    refine lv_aload_n F.1 F.2.1 d_M_enter_53 rfl (lv_at hl 1 rfl) ?_
    have f17 : h13 o = some (.inr (7, [.int (S15 16 0), .int (S15 16 1), .ref (ad 0), .ref (ad 1), .ref (ad 2), .ref (ad 3), .ref (ad 4), .int (S15 16 2), .int (S15 16 3), .int (S15 16 4), .int (S15 16 5), .ref (ad 5), .ref (ad 6), .ref (ad 7), .ref (ad 8), .ref (ad 9), .ref (ad 10), .ref (ad 11), .ref (ad 12), .ref (ad 13), .ref (ad 14), .ref (ad 15)])) := hR.1
    refine pw_get F I_M hK.1 hP f17 rfl 20 (by decide) L_M_57 (fun _ z => z) rfl d_M_enter_54 ?_
    refine lv_iload_n F.1 F.2.1 d_M_enter_57 rfl (lv_at hl 0 rfl) ?_
    refine lv_iconst (v := 0) F.1 F.2.1 d_M_enter_58 (by decide) ?_
    have f18 : h13 (ad 14) = some (.inl (cs 0, 24, .inl (S15 14))) := hR.2.1 14 (by decide)
    refine pw_iastN F hK.1 hP hS 0 f18 rfl (k := 6 * t + d) (by omega) (by decide) d_M_enter_59 (fun H locs hP hS => ?_)
    have hP : pw D vwCl A (pu h13 (ad 14) (.inl (cs 0, 24, .inl (upd (S15 14) (6 * t + d) 0)))) H := hP
    have hR := hR.arr (show 14 < 16 by decide) (6 * t + d) 0
    obtain ⟨h19, e20⟩ : ∃ z9 : pw_H, z9 = pu h13 (ad 14) (.inl (cs 0, 24, .inl (upd (S15 14) (6 * t + d) 0))) := ⟨_, rfl⟩
    rw [← e20] at hP
    obtain ⟨S21, t22⟩ : ∃ z9 : St, z9 = sp S15 14 (6 * t + d) 0 := ⟨_, rfl⟩
    have hR : RM cs h19 o ad S21 := by rw [e20, t22]; exact hR
    refine lv_aload_n F.1 F.2.1 d_M_enter_60 rfl (lv_at hl 1 rfl) ?_
    have f23 : h19 o = some (.inr (7, [.int (S21 16 0), .int (S21 16 1), .ref (ad 0), .ref (ad 1), .ref (ad 2), .ref (ad 3), .ref (ad 4), .int (S21 16 2), .int (S21 16 3), .int (S21 16 4), .int (S21 16 5), .ref (ad 5), .ref (ad 6), .ref (ad 7), .ref (ad 8), .ref (ad 9), .ref (ad 10), .ref (ad 11), .ref (ad 12), .ref (ad 13), .ref (ad 14), .ref (ad 15)])) := hR.1
    refine pw_get F I_M hK.1 hP f23 rfl 21 (by decide) L_M_60 (fun _ z => z) rfl d_M_enter_61 ?_
    refine lv_iload_n F.1 F.2.1 d_M_enter_64 rfl (lv_at hl 0 rfl) ?_
    refine lv_iconst (v := 0) F.1 F.2.1 d_M_enter_65 (by decide) ?_
    have f24 : h19 (ad 15) = some (.inl (cs 0, 24, .inl (S21 15))) := hR.2.1 15 (by decide)
    refine pw_iastN F hK.1 hP hS 0 f24 rfl (k := 6 * t + d) (by omega) (by decide) d_M_enter_66 (fun H locs hP hS => ?_)
    have hP : pw D vwCl A (pu h19 (ad 15) (.inl (cs 0, 24, .inl (upd (S21 15) (6 * t + d) 0)))) H := hP
    have hR := hR.arr (show 15 < 16 by decide) (6 * t + d) 0
    obtain ⟨h25, e26⟩ : ∃ z9 : pw_H, z9 = pu h19 (ad 15) (.inl (cs 0, 24, .inl (upd (S21 15) (6 * t + d) 0))) := ⟨_, rfl⟩
    rw [← e26] at hP
    obtain ⟨S27, t28⟩ : ∃ z9 : St, z9 = sp S21 15 (6 * t + d) 0 := ⟨_, rfl⟩
    have hR : RM cs h25 o ad S27 := by rw [e26, t28]; exact hR
    refine lv_aload_n F.1 F.2.1 d_M_enter_67 rfl (lv_at hl 1 rfl) ?_
    have f29 : h25 o = some (.inr (7, [.int (S27 16 0), .int (S27 16 1), .ref (ad 0), .ref (ad 1), .ref (ad 2), .ref (ad 3), .ref (ad 4), .int (S27 16 2), .int (S27 16 3), .int (S27 16 4), .int (S27 16 5), .ref (ad 5), .ref (ad 6), .ref (ad 7), .ref (ad 8), .ref (ad 9), .ref (ad 10), .ref (ad 11), .ref (ad 12), .ref (ad 13), .ref (ad 14), .ref (ad 15)])) := hR.1
    refine pw_get F I_M hK.1 hP f29 rfl 17 (by decide) L_M_48 (fun _ z => z) rfl d_M_enter_68 ?_
    refine lv_iload_n F.1 F.2.1 d_M_enter_71 rfl (lv_at hl 2 rfl) ?_
    refine lv_dup2_11 F.1 F.2.1 d_M_enter_72 rfl rfl ?_
    have f30 : h25 (ad 11) = some (.inl (cs 0, 4, .inl (S27 11))) := hR.2.1 11 (by decide)
    refine pw_ialdN F hK.1 hP 0 f30 rfl (k := t) (by omega) (by decide) d_M_enter_73 ?_
    refine W.eq (g2 := F0 m 74 ls [.int (nI d), .int (nI t), .ref (ad 11)]) (by rw [show S27 11 t = S21 11 t from by rw [t28]; exact sp_k (by decide), show S21 11 t = S15 11 t from by rw [t22]; exact sp_k (by decide), show S15 11 t = S8 11 t from by rw [t16]; exact sp_k (by decide), show S8 11 t = S 11 t from by rw [t9]; exact sp_k (by decide), hd]) ?_
    refine lv_iconst (v := 1) F.1 F.2.1 d_M_enter_74 (by decide) ?_
    refine lv_iadd F.1 F.2.1 d_M_enter_75 ?_
    refine W.eq (g2 := F0 m 76 ls [.int (nI (d + 1)), .int (nI t), .ref (ad 11)]) (by rw [show (1 : Int32) = nI 1 from rfl, nI_add]) ?_
    refine pw_iastN F hK.1 hP hS 0 f30 rfl (k := t) (by omega) (by decide) d_M_enter_76 (fun H locs hP hS => ?_)
    have hP : pw D vwCl A (pu h25 (ad 11) (.inl (cs 0, 4, .inl (upd (S27 11) t (nI (d + 1)))))) H := hP
    have hR := hR.arr (show 11 < 16 by decide) t (nI (d + 1))
    obtain ⟨h31, e32⟩ : ∃ z9 : pw_H, z9 = pu h25 (ad 11) (.inl (cs 0, 4, .inl (upd (S27 11) t (nI (d + 1))))) := ⟨_, rfl⟩
    rw [← e32] at hP
    obtain ⟨S33, t34⟩ : ∃ z9 : St, z9 = sp S27 11 t (nI (d + 1)) := ⟨_, rfl⟩
    have hR : RM cs h31 o ad S33 := by rw [e32, t34]; exact hR
    exact pw_vret F hr hlk hP hA hK hS (by decide) (by decide) d_M_enter_77 (by rw [t34, t28, t22, t16, t9] at hR; rw [mEnter_go hd hlt hL hL5]; exact hR)
  · skip
    exact pw_vret F hr hlk hP hA hK hS (by decide) (by decide) d_M_enter_11 (by rw [mEnter_6 (hd.trans c3)]; exact hR)
end
section
theorem mIn_nat {x : Int32} {n : Nat} (hn : n ≤ 1000) (h0 : 0 ≤ x) (h1 : x ≤ nI n - 1) : ∃ f : Nat, f < n ∧ x = nI f := by
  obtain ⟨j, hj, rfl⟩ := nI_of (x := x) (Int32.not_lt.mpr h0)
  refine ⟨j, ?_, rfl⟩
  cases n with
  | zero =>
    exfalso
    rw [show nI 0 - 1 = -1 from by decide] at h1
    have h2 := Int32.le_trans h0 h1
    exact absurd h2 (by decide)
  | succ k =>
    rw [nI_pred] at h1
    have := (nI_leI hj (by omega)).mp h1
    omega
theorem mIn_of {f n : Nat} (hn : n ≤ 1000) (hf : f < n) : (0 : Int32) ≤ nI f ∧ nI f ≤ nI n - 1 := by
  refine ⟨nI_pos' (by omega), ?_⟩
  cases n with
  | zero => omega
  | succ k => rw [nI_pred]; exact nI_le (by omega) (by omega)
theorem mTop_eq {S : St} {t d : Nat} (hd : S 11 t = nI (d + 1)) (h6 : d < 6) : mTop S t = 6 * t + d := by
  show 6 * t + (tn (S 11 t) - 1) = _
  rw [hd, tn_nI (by omega)]; omega
theorem mGoes_iff {S : St} {t d r a : Nat} (hd : S 11 t = nI (d + 1)) (h6 : d < 6) (hr : S 12 (6 * t + d) = nI r) (hr48 : r < 48) (ha : S 14 (6 * t + d) = nI a) (ha12 : a ≤ 12) :
    mGoes S t ↔ (¬ S 16 4 < 0 ∧ ¬ S 6 t = S 16 4 ∧ ((nI a = S 2 r ∧ nI (d + 1) = 1) ∨ (¬ nI a = S 2 r ∧ S 3 (12 * r + a) = 2 ∧ mClear S t))) := by
  unfold mGoes mEnd mOp
  rw [mTop_eq hd h6, hr, ha, hd, tn_nI (by omega), tn_nI (by omega)]
theorem mClear_iff {S : St} {t d p : Nat} (hd : S 11 t = nI (d + 1)) (h6 : d < 6) (hp : S 16 3 = nI p) (hp5 : p ≤ 5) : mClear S t ↔ ∀ k, k < d + 1 → S 0 (8 * p + tn (S 12 (6 * t + k)) % 8) = 0 := by
  unfold mClear
  rw [hd, hp, tn_nI (by omega), tn_nI (by omega)]
abbrev rm_M_turn : Room := { frames := 1, cells := 0, slots := 0, locals := 22 }
set_option maxHeartbeats 4000000 in
set_option maxRecDepth 100000 in
theorem c_M_turn (l : Launch) (D : va_G) (cs : Nat → Nat) (A : Nat → Prop) (h : pw_H) (o : Nat) (ad : Nat → Nat) (S : St) (hR : RM cs h o ad S) (nt : Nat) (hnt : nt ≤ 4) (hT : S 16 5 = nI nt) : pm l y_M_turn b_M_turn 2 (some .int) rm_M_turn [.ref o] D cs A h (va_Qi (fun (r : Int32) (h' : pw_H) => RM cs h' o ad (stTurn S) ∧ r = rTurn S) (ww D cs A) A) 0 0 := by
  refine pm_of R_M rfl (by decide) (Nat.le_of_ble_eq_true rfl) (fun p e s m below meth c ls F hr hlk hnm hP hA hK hl => ?_)
  have hS : va_S A s.heap s.heap [] := va_S.rf
  replace hl : lv_has ls 2 [(0, .ref o)] := hl
  refine lv_aload_n F.1 F.2.1 d_M_turn_0 rfl (lv_at hl 0 rfl) ?_
  refine lv_aload_n F.1 F.2.1 d_M_turn_1 rfl (lv_at hl 0 rfl) ?_
  have f1 : h o = some (.inr (7, [.int (S 16 0), .int (S 16 1), .ref (ad 0), .ref (ad 1), .ref (ad 2), .ref (ad 3), .ref (ad 4), .int (S 16 2), .int (S 16 3), .int (S 16 4), .int (S 16 5), .ref (ad 5), .ref (ad 6), .ref (ad 7), .ref (ad 8), .ref (ad 9), .ref (ad 10), .ref (ad 11), .ref (ad 12), .ref (ad 13), .ref (ad 14), .ref (ad 15)])) := hR.1
  refine pw_get F I_M hK.1 hP f1 rfl 9 (by decide) L_M_26 (fun _ z => z) rfl d_M_turn_2 ?_
  refine lv_if_ge (tgt := 15) F.1 F.2.1 d_M_turn_5 (by decide) (fun c2 => ?_) (fun c2 => ?_)
  · skip
    refine lv_iconst (v := 0) F.1 F.2.1 d_M_turn_15 (by decide) ?_
    refine lv_goto (tgt := 20) F.1 F.2.1 d_M_turn_16 (by decide) ?_
    refine pw_put F I_M ty_M k_M n_M hK.1 hP hS f1 rfl 0 (by decide) L_M_63 (fun _ z => z) rfl rfl rfl (Nat.le_of_ble_eq_true rfl) d_M_turn_20 (fun H locs hP hS => ?_)
    have hP : pw D vwCl A (pu h o (.inr (7, (mfs ad S).set (mpos 0) (.int 0)))) H := hP
    have hR := hR.num (show 0 < 6 by decide) 0
    obtain ⟨h3, e4⟩ : ∃ z9 : pw_H, z9 = pu h o (.inr (7, (mfs ad S).set (mpos 0) (.int 0))) := ⟨_, rfl⟩
    rw [← e4] at hP
    obtain ⟨S5, t6⟩ : ∃ z9 : St, z9 = sp S 16 0 0 := ⟨_, rfl⟩
    have hR : RM cs h3 o ad S5 := by rw [e4, t6]; exact hR
    refine lv_aload_n F.1 F.2.1 d_M_turn_23 rfl (lv_at hl 0 rfl) ?_
    have f7 : h3 o = some (.inr (7, [.int (S5 16 0), .int (S5 16 1), .ref (ad 0), .ref (ad 1), .ref (ad 2), .ref (ad 3), .ref (ad 4), .int (S5 16 2), .int (S5 16 3), .int (S5 16 4), .int (S5 16 5), .ref (ad 5), .ref (ad 6), .ref (ad 7), .ref (ad 8), .ref (ad 9), .ref (ad 10), .ref (ad 11), .ref (ad 12), .ref (ad 13), .ref (ad 14), .ref (ad 15)])) := hR.1
    refine pw_get F I_M hK.1 hP f7 rfl 0 (by decide) L_M_63 (fun _ z => z) rfl d_M_turn_24 ?_
    refine W.eq (g2 := F0 m 27 ls [.int 0]) (by rw [show S5 16 0 = 0 from by rw [t6]; exact sp_s]) ?_
    refine lv_if_le (tgt := 32) F.1 F.2.1 d_M_turn_27 (by decide) (fun c8 => ?_) (fun c8 => absurd (by decide) c8)
    refine lv_aload_n F.1 F.2.1 d_M_turn_32 rfl (lv_at hl 0 rfl) ?_
    refine lv_aload_n F.1 F.2.1 d_M_turn_33 rfl (lv_at hl 0 rfl) ?_
    refine pw_get F I_M hK.1 hP f7 rfl 9 (by decide) L_M_26 (fun _ z => z) rfl d_M_turn_34 ?_
    refine W.eq (g2 := F0 m 37 ls [.int (S 16 4), .ref o]) (by rw [show S5 16 4 = S 16 4 from by rw [t6]; exact sp_j (by decide)]) ?_
    refine lv_aload_n F.1 F.2.1 d_M_turn_37 rfl (lv_at hl 0 rfl) ?_
    refine pw_get F I_M hK.1 hP f7 rfl 8 (by decide) L_M_69 (fun _ z => z) rfl d_M_turn_38 ?_
    refine W.eq (g2 := F0 m 41 ls [.int (S 16 3), .int (S 16 4), .ref o]) (by rw [show S5 16 3 = S 16 3 from by rw [t6]; exact sp_j (by decide)]) ?_
    refine lv_iconst (v := 1) F.1 F.2.1 d_M_turn_41 (by decide) ?_
    refine lv_isub F.1 F.2.1 d_M_turn_42 ?_
    refine lv_icmp_ne (tgt := 53) F.1 F.2.1 d_M_turn_43 (by decide) (fun c9 => ?_) (fun c9 => ?_)
    · skip
      refine lv_aload_n F.1 F.2.1 d_M_turn_53 rfl (lv_at hl 0 rfl) ?_
      refine pw_get F I_M hK.1 hP f7 rfl 8 (by decide) L_M_69 (fun _ z => z) rfl d_M_turn_54 ?_
      refine W.eq (g2 := F0 m 57 ls [.int (S 16 3), .ref o]) (by rw [show S5 16 3 = S 16 3 from by rw [t6]; exact sp_j (by decide)]) ?_
      refine lv_iconst (v := 1) F.1 F.2.1 d_M_turn_57 (by decide) ?_
      refine lv_isub F.1 F.2.1 d_M_turn_58 ?_
      refine pw_put F I_M ty_M k_M n_M hK.1 hP hS f7 rfl 9 (by decide) L_M_26 (fun _ z => z) rfl rfl rfl (Nat.le_of_ble_eq_true rfl) d_M_turn_59 (fun H locs hP hS => ?_)
      have hP : pw D vwCl A (pu h3 o (.inr (7, (mfs ad S5).set (mpos 4) (.int ((S 16 3) - 1))))) H := hP
      have hR := hR.num (show 4 < 6 by decide) ((S 16 3) - 1)
      obtain ⟨h10, e11⟩ : ∃ z9 : pw_H, z9 = pu h3 o (.inr (7, (mfs ad S5).set (mpos 4) (.int ((S 16 3) - 1)))) := ⟨_, rfl⟩
      rw [← e11] at hP
      obtain ⟨S12, t13⟩ : ∃ z9 : St, z9 = sp S5 16 4 ((S 16 3) - 1) := ⟨_, rfl⟩
      have hR : RM cs h10 o ad S12 := by rw [e11, t13]; exact hR
      refine lv_aload_n F.1 F.2.1 d_M_turn_62 rfl (lv_at hl 0 rfl) ?_
      have f14 : h10 o = some (.inr (7, [.int (S12 16 0), .int (S12 16 1), .ref (ad 0), .ref (ad 1), .ref (ad 2), .ref (ad 3), .ref (ad 4), .int (S12 16 2), .int (S12 16 3), .int (S12 16 4), .int (S12 16 5), .ref (ad 5), .ref (ad 6), .ref (ad 7), .ref (ad 8), .ref (ad 9), .ref (ad 10), .ref (ad 11), .ref (ad 12), .ref (ad 13), .ref (ad 14), .ref (ad 15)])) := hR.1
      refine pw_get F I_M hK.1 hP f14 rfl 9 (by decide) L_M_26 (fun _ z => z) rfl d_M_turn_63 ?_
      refine W.eq (g2 := F0 m 66 ls [.int ((S 16 3) - 1)]) (by rw [show S12 16 4 = (S 16 3) - 1 from by rw [t13]; exact sp_s]) ?_
      refine lv_istore_n F.1 F.2.1 d_M_turn_66 rfl hl (by decide) rfl (fun ls hl => ?_)
      replace hl : lv_has ls 2 [(1, .int ((S 16 3) - 1)), (0, .ref o)] := hl
      refine lv_aload_n F.1 F.2.1 d_M_turn_67 rfl (lv_at hl 1 rfl) ?_
      refine pw_cv (pr_V F (c_M_settle l D cs A h10 o ad S12 hR nt hnt (by rw [t13, sp_j (by decide), t6, sp_j (by decide)]; exact hT)) X_M_90 rfl rfl ⟨by decide, by decide⟩ hP hA hK hS f14 rfl rfl rfl hl.1 rfl (Nat.le_of_ble_eq_true rfl) d_M_turn_68 ⟨by decide, by decide⟩) hS (fun h15 H locs hq hP hS => ?_)
      obtain ⟨S16, t17⟩ : ∃ z9 : St, z9 = mSettle S12 := ⟨_, rfl⟩
      have hR : RM cs h15 o ad S16 := by rw [t17]; exact hq
      refine lv_iload_n F.1 F.2.1 d_M_turn_71 rfl (lv_at hl 0 rfl) ?_
      exact pw_iret F hr hlk hP hA hK hS (by decide) (by decide) d_M_turn_72 (by have hth : thTurn S = 0 := (by unfold thTurn; rw [if_pos (Or.inl (Int32.not_lt.mpr c2))]); unfold stTurn rTurn toTurn; rw [hth, if_pos rfl, if_pos rfl, if_neg c9]; rw [t17, t13, t6] at hR; exact ⟨hR, rfl⟩)
    · skip
      refine lv_aload_n F.1 F.2.1 d_M_turn_46 rfl (lv_at hl 0 rfl) ?_
      refine pw_get F I_M hK.1 hP f7 rfl 8 (by decide) L_M_69 (fun _ z => z) rfl d_M_turn_47 ?_
      refine W.eq (g2 := F0 m 50 ls [.int (S 16 3), .ref o]) (by rw [show S5 16 3 = S 16 3 from by rw [t6]; exact sp_j (by decide)]) ?_
      refine lv_goto (tgt := 59) F.1 F.2.1 d_M_turn_50 (by decide) ?_
      refine pw_put F I_M ty_M k_M n_M hK.1 hP hS f7 rfl 9 (by decide) L_M_26 (fun _ z => z) rfl rfl rfl (Nat.le_of_ble_eq_true rfl) d_M_turn_59 (fun H locs hP hS => ?_)
      have hP : pw D vwCl A (pu h3 o (.inr (7, (mfs ad S5).set (mpos 4) (.int (S 16 3))))) H := hP
      have hR := hR.num (show 4 < 6 by decide) (S 16 3)
      obtain ⟨h18, e19⟩ : ∃ z9 : pw_H, z9 = pu h3 o (.inr (7, (mfs ad S5).set (mpos 4) (.int (S 16 3)))) := ⟨_, rfl⟩
      rw [← e19] at hP
      obtain ⟨S20, t21⟩ : ∃ z9 : St, z9 = sp S5 16 4 (S 16 3) := ⟨_, rfl⟩
      have hR : RM cs h18 o ad S20 := by rw [e19, t21]; exact hR
      refine lv_aload_n F.1 F.2.1 d_M_turn_62 rfl (lv_at hl 0 rfl) ?_
      have f22 : h18 o = some (.inr (7, [.int (S20 16 0), .int (S20 16 1), .ref (ad 0), .ref (ad 1), .ref (ad 2), .ref (ad 3), .ref (ad 4), .int (S20 16 2), .int (S20 16 3), .int (S20 16 4), .int (S20 16 5), .ref (ad 5), .ref (ad 6), .ref (ad 7), .ref (ad 8), .ref (ad 9), .ref (ad 10), .ref (ad 11), .ref (ad 12), .ref (ad 13), .ref (ad 14), .ref (ad 15)])) := hR.1
      refine pw_get F I_M hK.1 hP f22 rfl 9 (by decide) L_M_26 (fun _ z => z) rfl d_M_turn_63 ?_
      refine W.eq (g2 := F0 m 66 ls [.int (S 16 3)]) (by rw [show S20 16 4 = S 16 3 from by rw [t21]; exact sp_s]) ?_
      refine lv_istore_n F.1 F.2.1 d_M_turn_66 rfl hl (by decide) rfl (fun ls hl => ?_)
      replace hl : lv_has ls 2 [(1, .int (S 16 3)), (0, .ref o)] := hl
      refine lv_aload_n F.1 F.2.1 d_M_turn_67 rfl (lv_at hl 1 rfl) ?_
      refine pw_cv (pr_V F (c_M_settle l D cs A h18 o ad S20 hR nt hnt (by rw [t21, sp_j (by decide), t6, sp_j (by decide)]; exact hT)) X_M_90 rfl rfl ⟨by decide, by decide⟩ hP hA hK hS f22 rfl rfl rfl hl.1 rfl (Nat.le_of_ble_eq_true rfl) d_M_turn_68 ⟨by decide, by decide⟩) hS (fun h23 H locs hq hP hS => ?_)
      obtain ⟨S24, t25⟩ : ∃ z9 : St, z9 = mSettle S20 := ⟨_, rfl⟩
      have hR : RM cs h23 o ad S24 := by rw [t25]; exact hq
      refine lv_iload_n F.1 F.2.1 d_M_turn_71 rfl (lv_at hl 0 rfl) ?_
      exact pw_iret F hr hlk hP hA hK hS (by decide) (by decide) d_M_turn_72 (by have hth : thTurn S = 0 := (by unfold thTurn; rw [if_pos (Or.inl (Int32.not_lt.mpr c2))]); unfold stTurn rTurn toTurn; rw [hth, if_pos rfl, if_pos rfl, if_pos c9]; rw [t25, t21, t6] at hR; exact ⟨hR, rfl⟩)
  · skip
    refine lv_aload_n F.1 F.2.1 d_M_turn_8 rfl (lv_at hl 0 rfl) ?_
    refine pw_get F I_M hK.1 hP f1 rfl 8 (by decide) L_M_69 (fun _ z => z) rfl d_M_turn_9 ?_
    refine lv_if_le (tgt := 19) F.1 F.2.1 d_M_turn_12 (by decide) (fun c26 => ?_) (fun c26 => ?_)
    · skip
      refine lv_iconst (v := 1) F.1 F.2.1 d_M_turn_19 (by decide) ?_
      refine pw_put F I_M ty_M k_M n_M hK.1 hP hS f1 rfl 0 (by decide) L_M_63 (fun _ z => z) rfl rfl rfl (Nat.le_of_ble_eq_true rfl) d_M_turn_20 (fun H locs hP hS => ?_)
      have hP : pw D vwCl A (pu h o (.inr (7, (mfs ad S).set (mpos 0) (.int 1)))) H := hP
      have hR := hR.num (show 0 < 6 by decide) 1
      obtain ⟨h27, e28⟩ : ∃ z9 : pw_H, z9 = pu h o (.inr (7, (mfs ad S).set (mpos 0) (.int 1))) := ⟨_, rfl⟩
      rw [← e28] at hP
      obtain ⟨S29, t30⟩ : ∃ z9 : St, z9 = sp S 16 0 1 := ⟨_, rfl⟩
      have hR : RM cs h27 o ad S29 := by rw [e28, t30]; exact hR
      refine lv_aload_n F.1 F.2.1 d_M_turn_23 rfl (lv_at hl 0 rfl) ?_
      have f31 : h27 o = some (.inr (7, [.int (S29 16 0), .int (S29 16 1), .ref (ad 0), .ref (ad 1), .ref (ad 2), .ref (ad 3), .ref (ad 4), .int (S29 16 2), .int (S29 16 3), .int (S29 16 4), .int (S29 16 5), .ref (ad 5), .ref (ad 6), .ref (ad 7), .ref (ad 8), .ref (ad 9), .ref (ad 10), .ref (ad 11), .ref (ad 12), .ref (ad 13), .ref (ad 14), .ref (ad 15)])) := hR.1
      refine pw_get F I_M hK.1 hP f31 rfl 0 (by decide) L_M_63 (fun _ z => z) rfl d_M_turn_24 ?_
      refine W.eq (g2 := F0 m 27 ls [.int 1]) (by rw [show S29 16 0 = 1 from by rw [t30]; exact sp_s]) ?_
      refine lv_if_le (tgt := 32) F.1 F.2.1 d_M_turn_27 (by decide) (fun c32 => absurd c32 (by decide)) (fun c32 => ?_)
      refine lv_iconst (v := 0) F.1 F.2.1 d_M_turn_30 (by decide) ?_
      exact pw_iret F hr hlk hP hA hK hS (by decide) (by decide) d_M_turn_31 (by have hth : thTurn S = 1 := (by unfold thTurn; rw [if_neg (fun z9 => z9.elim (fun z8 => z8 (Int32.not_le.mp c2)) (fun z8 => absurd z8 (Int32.not_lt.mpr c26)))]); unfold stTurn rTurn; rw [hth, if_neg (by decide), if_neg (by decide)]; rw [t30] at hR; exact ⟨hR, rfl⟩)
    · skip
      refine lv_iconst (v := 0) F.1 F.2.1 d_M_turn_15 (by decide) ?_
      refine lv_goto (tgt := 20) F.1 F.2.1 d_M_turn_16 (by decide) ?_
      refine pw_put F I_M ty_M k_M n_M hK.1 hP hS f1 rfl 0 (by decide) L_M_63 (fun _ z => z) rfl rfl rfl (Nat.le_of_ble_eq_true rfl) d_M_turn_20 (fun H locs hP hS => ?_)
      have hP : pw D vwCl A (pu h o (.inr (7, (mfs ad S).set (mpos 0) (.int 0)))) H := hP
      have hR := hR.num (show 0 < 6 by decide) 0
      obtain ⟨h33, e34⟩ : ∃ z9 : pw_H, z9 = pu h o (.inr (7, (mfs ad S).set (mpos 0) (.int 0))) := ⟨_, rfl⟩
      rw [← e34] at hP
      obtain ⟨S35, t36⟩ : ∃ z9 : St, z9 = sp S 16 0 0 := ⟨_, rfl⟩
      have hR : RM cs h33 o ad S35 := by rw [e34, t36]; exact hR
      refine lv_aload_n F.1 F.2.1 d_M_turn_23 rfl (lv_at hl 0 rfl) ?_
      have f37 : h33 o = some (.inr (7, [.int (S35 16 0), .int (S35 16 1), .ref (ad 0), .ref (ad 1), .ref (ad 2), .ref (ad 3), .ref (ad 4), .int (S35 16 2), .int (S35 16 3), .int (S35 16 4), .int (S35 16 5), .ref (ad 5), .ref (ad 6), .ref (ad 7), .ref (ad 8), .ref (ad 9), .ref (ad 10), .ref (ad 11), .ref (ad 12), .ref (ad 13), .ref (ad 14), .ref (ad 15)])) := hR.1
      refine pw_get F I_M hK.1 hP f37 rfl 0 (by decide) L_M_63 (fun _ z => z) rfl d_M_turn_24 ?_
      refine W.eq (g2 := F0 m 27 ls [.int 0]) (by rw [show S35 16 0 = 0 from by rw [t36]; exact sp_s]) ?_
      refine lv_if_le (tgt := 32) F.1 F.2.1 d_M_turn_27 (by decide) (fun c38 => ?_) (fun c38 => absurd (by decide) c38)
      refine lv_aload_n F.1 F.2.1 d_M_turn_32 rfl (lv_at hl 0 rfl) ?_
      refine lv_aload_n F.1 F.2.1 d_M_turn_33 rfl (lv_at hl 0 rfl) ?_
      refine pw_get F I_M hK.1 hP f37 rfl 9 (by decide) L_M_26 (fun _ z => z) rfl d_M_turn_34 ?_
      refine W.eq (g2 := F0 m 37 ls [.int (S 16 4), .ref o]) (by rw [show S35 16 4 = S 16 4 from by rw [t36]; exact sp_j (by decide)]) ?_
      refine lv_aload_n F.1 F.2.1 d_M_turn_37 rfl (lv_at hl 0 rfl) ?_
      refine pw_get F I_M hK.1 hP f37 rfl 8 (by decide) L_M_69 (fun _ z => z) rfl d_M_turn_38 ?_
      refine W.eq (g2 := F0 m 41 ls [.int (S 16 3), .int (S 16 4), .ref o]) (by rw [show S35 16 3 = S 16 3 from by rw [t36]; exact sp_j (by decide)]) ?_
      refine lv_iconst (v := 1) F.1 F.2.1 d_M_turn_41 (by decide) ?_
      refine lv_isub F.1 F.2.1 d_M_turn_42 ?_
      refine lv_icmp_ne (tgt := 53) F.1 F.2.1 d_M_turn_43 (by decide) (fun c39 => ?_) (fun c39 => ?_)
      · skip
        refine lv_aload_n F.1 F.2.1 d_M_turn_53 rfl (lv_at hl 0 rfl) ?_
        refine pw_get F I_M hK.1 hP f37 rfl 8 (by decide) L_M_69 (fun _ z => z) rfl d_M_turn_54 ?_
        refine W.eq (g2 := F0 m 57 ls [.int (S 16 3), .ref o]) (by rw [show S35 16 3 = S 16 3 from by rw [t36]; exact sp_j (by decide)]) ?_
        refine lv_iconst (v := 1) F.1 F.2.1 d_M_turn_57 (by decide) ?_
        refine lv_isub F.1 F.2.1 d_M_turn_58 ?_
        refine pw_put F I_M ty_M k_M n_M hK.1 hP hS f37 rfl 9 (by decide) L_M_26 (fun _ z => z) rfl rfl rfl (Nat.le_of_ble_eq_true rfl) d_M_turn_59 (fun H locs hP hS => ?_)
        have hP : pw D vwCl A (pu h33 o (.inr (7, (mfs ad S35).set (mpos 4) (.int ((S 16 3) - 1))))) H := hP
        have hR := hR.num (show 4 < 6 by decide) ((S 16 3) - 1)
        obtain ⟨h40, e41⟩ : ∃ z9 : pw_H, z9 = pu h33 o (.inr (7, (mfs ad S35).set (mpos 4) (.int ((S 16 3) - 1)))) := ⟨_, rfl⟩
        rw [← e41] at hP
        obtain ⟨S42, t43⟩ : ∃ z9 : St, z9 = sp S35 16 4 ((S 16 3) - 1) := ⟨_, rfl⟩
        have hR : RM cs h40 o ad S42 := by rw [e41, t43]; exact hR
        refine lv_aload_n F.1 F.2.1 d_M_turn_62 rfl (lv_at hl 0 rfl) ?_
        have f44 : h40 o = some (.inr (7, [.int (S42 16 0), .int (S42 16 1), .ref (ad 0), .ref (ad 1), .ref (ad 2), .ref (ad 3), .ref (ad 4), .int (S42 16 2), .int (S42 16 3), .int (S42 16 4), .int (S42 16 5), .ref (ad 5), .ref (ad 6), .ref (ad 7), .ref (ad 8), .ref (ad 9), .ref (ad 10), .ref (ad 11), .ref (ad 12), .ref (ad 13), .ref (ad 14), .ref (ad 15)])) := hR.1
        refine pw_get F I_M hK.1 hP f44 rfl 9 (by decide) L_M_26 (fun _ z => z) rfl d_M_turn_63 ?_
        refine W.eq (g2 := F0 m 66 ls [.int ((S 16 3) - 1)]) (by rw [show S42 16 4 = (S 16 3) - 1 from by rw [t43]; exact sp_s]) ?_
        refine lv_istore_n F.1 F.2.1 d_M_turn_66 rfl hl (by decide) rfl (fun ls hl => ?_)
        replace hl : lv_has ls 2 [(1, .int ((S 16 3) - 1)), (0, .ref o)] := hl
        refine lv_aload_n F.1 F.2.1 d_M_turn_67 rfl (lv_at hl 1 rfl) ?_
        refine pw_cv (pr_V F (c_M_settle l D cs A h40 o ad S42 hR nt hnt (by rw [t43, sp_j (by decide), t36, sp_j (by decide)]; exact hT)) X_M_90 rfl rfl ⟨by decide, by decide⟩ hP hA hK hS f44 rfl rfl rfl hl.1 rfl (Nat.le_of_ble_eq_true rfl) d_M_turn_68 ⟨by decide, by decide⟩) hS (fun h45 H locs hq hP hS => ?_)
        obtain ⟨S46, t47⟩ : ∃ z9 : St, z9 = mSettle S42 := ⟨_, rfl⟩
        have hR : RM cs h45 o ad S46 := by rw [t47]; exact hq
        refine lv_iload_n F.1 F.2.1 d_M_turn_71 rfl (lv_at hl 0 rfl) ?_
        exact pw_iret F hr hlk hP hA hK hS (by decide) (by decide) d_M_turn_72 (by have hth : thTurn S = 0 := (by unfold thTurn; rw [if_pos (Or.inr (Int32.not_le.mp c26))]); unfold stTurn rTurn toTurn; rw [hth, if_pos rfl, if_pos rfl, if_neg c39]; rw [t47, t43, t36] at hR; exact ⟨hR, rfl⟩)
      · skip
        refine lv_aload_n F.1 F.2.1 d_M_turn_46 rfl (lv_at hl 0 rfl) ?_
        refine pw_get F I_M hK.1 hP f37 rfl 8 (by decide) L_M_69 (fun _ z => z) rfl d_M_turn_47 ?_
        refine W.eq (g2 := F0 m 50 ls [.int (S 16 3), .ref o]) (by rw [show S35 16 3 = S 16 3 from by rw [t36]; exact sp_j (by decide)]) ?_
        refine lv_goto (tgt := 59) F.1 F.2.1 d_M_turn_50 (by decide) ?_
        refine pw_put F I_M ty_M k_M n_M hK.1 hP hS f37 rfl 9 (by decide) L_M_26 (fun _ z => z) rfl rfl rfl (Nat.le_of_ble_eq_true rfl) d_M_turn_59 (fun H locs hP hS => ?_)
        have hP : pw D vwCl A (pu h33 o (.inr (7, (mfs ad S35).set (mpos 4) (.int (S 16 3))))) H := hP
        have hR := hR.num (show 4 < 6 by decide) (S 16 3)
        obtain ⟨h48, e49⟩ : ∃ z9 : pw_H, z9 = pu h33 o (.inr (7, (mfs ad S35).set (mpos 4) (.int (S 16 3)))) := ⟨_, rfl⟩
        rw [← e49] at hP
        obtain ⟨S50, t51⟩ : ∃ z9 : St, z9 = sp S35 16 4 (S 16 3) := ⟨_, rfl⟩
        have hR : RM cs h48 o ad S50 := by rw [e49, t51]; exact hR
        refine lv_aload_n F.1 F.2.1 d_M_turn_62 rfl (lv_at hl 0 rfl) ?_
        have f52 : h48 o = some (.inr (7, [.int (S50 16 0), .int (S50 16 1), .ref (ad 0), .ref (ad 1), .ref (ad 2), .ref (ad 3), .ref (ad 4), .int (S50 16 2), .int (S50 16 3), .int (S50 16 4), .int (S50 16 5), .ref (ad 5), .ref (ad 6), .ref (ad 7), .ref (ad 8), .ref (ad 9), .ref (ad 10), .ref (ad 11), .ref (ad 12), .ref (ad 13), .ref (ad 14), .ref (ad 15)])) := hR.1
        refine pw_get F I_M hK.1 hP f52 rfl 9 (by decide) L_M_26 (fun _ z => z) rfl d_M_turn_63 ?_
        refine W.eq (g2 := F0 m 66 ls [.int (S 16 3)]) (by rw [show S50 16 4 = S 16 3 from by rw [t51]; exact sp_s]) ?_
        refine lv_istore_n F.1 F.2.1 d_M_turn_66 rfl hl (by decide) rfl (fun ls hl => ?_)
        replace hl : lv_has ls 2 [(1, .int (S 16 3)), (0, .ref o)] := hl
        refine lv_aload_n F.1 F.2.1 d_M_turn_67 rfl (lv_at hl 1 rfl) ?_
        refine pw_cv (pr_V F (c_M_settle l D cs A h48 o ad S50 hR nt hnt (by rw [t51, sp_j (by decide), t36, sp_j (by decide)]; exact hT)) X_M_90 rfl rfl ⟨by decide, by decide⟩ hP hA hK hS f52 rfl rfl rfl hl.1 rfl (Nat.le_of_ble_eq_true rfl) d_M_turn_68 ⟨by decide, by decide⟩) hS (fun h53 H locs hq hP hS => ?_)
        obtain ⟨S54, t55⟩ : ∃ z9 : St, z9 = mSettle S50 := ⟨_, rfl⟩
        have hR : RM cs h53 o ad S54 := by rw [t55]; exact hq
        refine lv_iload_n F.1 F.2.1 d_M_turn_71 rfl (lv_at hl 0 rfl) ?_
        exact pw_iret F hr hlk hP hA hK hS (by decide) (by decide) d_M_turn_72 (by have hth : thTurn S = 0 := (by unfold thTurn; rw [if_pos (Or.inr (Int32.not_le.mp c26))]); unfold stTurn rTurn toTurn; rw [hth, if_pos rfl, if_pos rfl, if_pos c39]; rw [t55, t51, t36] at hR; exact ⟨hR, rfl⟩)
abbrev rm_M_goes : Room := { frames := 0, cells := 0, slots := 0, locals := 0 }
set_option maxHeartbeats 4000000 in
set_option maxRecDepth 100000 in
theorem c_M_goes (l : Launch) (D : va_G) (cs : Nat → Nat) (A : Nat → Prop) (h : pw_H) (o : Nat) (ad : Nat → Nat) (S : St) (hR : RM cs h o ad S) (t d r a z pT : Nat) (ht : t < 4) (h6 : d < 6) (hd : S 11 t = nI (d + 1)) (hr48 : r < 48) (hrw : S 12 (6 * t + d) = nI r) (hz12 : z ≤ 12) (hz : S 2 r = nI z) (haz : a ≤ z) (ha : S 14 (6 * t + d) = nI a) (hp5 : pT ≤ 5) (hp : S 16 3 = nI pT) (rows : ∀ k, k ≤ d → ∃ rk, rk < 48 ∧ S 12 (6 * t + k) = nI rk) : pm l y_M_goes b_M_goes 5 (some .boolean) rm_M_goes [.ref o, .int (nI t)] D cs A h (va_Qi (fun (r : Int32) (h' : pw_H) => h' = h ∧ (mGoes S t → r = 1) ∧ (¬ mGoes S t → r = 0)) (ww D cs A) A) 0 0 := by
  refine pm_of R_M rfl (by decide) (Nat.le_of_ble_eq_true rfl) (fun p e s m below meth c ls F hr hlk hnm hP hA hK hl => ?_)
  have hS : va_S A s.heap s.heap [] := va_S.rf
  replace hl : lv_has ls 5 [(0, .ref o), (1, .int (nI t))] := hl
  refine lv_aload_n F.1 F.2.1 d_M_goes_0 rfl (lv_at hl 0 rfl) ?_
  have f1 : h o = some (.inr (7, [.int (S 16 0), .int (S 16 1), .ref (ad 0), .ref (ad 1), .ref (ad 2), .ref (ad 3), .ref (ad 4), .int (S 16 2), .int (S 16 3), .int (S 16 4), .int (S 16 5), .ref (ad 5), .ref (ad 6), .ref (ad 7), .ref (ad 8), .ref (ad 9), .ref (ad 10), .ref (ad 11), .ref (ad 12), .ref (ad 13), .ref (ad 14), .ref (ad 15)])) := hR.1
  refine pw_get F I_M hK.1 hP f1 rfl 9 (by decide) L_M_26 (fun _ z => z) rfl d_M_goes_1 ?_
  refine lv_if_lt (tgt := 20) F.1 F.2.1 d_M_goes_4 (by decide) (fun c2 => ?_) (fun c2 => ?_)
  · skip
    refine lv_iconst (v := 0) F.1 F.2.1 d_M_goes_20 (by decide) ?_
    exact pw_zret F hr rfl hlk hP hA hK hS (by decide) (by decide) d_M_goes_21 (by exact ⟨rfl, fun z9 => absurd ((mGoes_iff hd h6 hrw hr48 ha (by omega)).mp z9) (fun z => z.1 c2), fun _ => rfl⟩)
  · skip
    refine lv_aload_n F.1 F.2.1 d_M_goes_7 rfl (lv_at hl 0 rfl) ?_
    refine pw_get F I_M hK.1 hP f1 rfl 12 (by decide) L_M_33 (fun _ z => z) rfl d_M_goes_8 ?_
    refine lv_iload_n F.1 F.2.1 d_M_goes_11 rfl (lv_at hl 1 rfl) ?_
    have f3 : h (ad 6) = some (.inl (cs 0, 4, .inl (S 6))) := hR.2.1 6 (by decide)
    refine pw_ialdN F hK.1 hP 0 f3 rfl (k := t) (by omega) (by decide) d_M_goes_12 ?_
    refine lv_aload_n F.1 F.2.1 d_M_goes_13 rfl (lv_at hl 0 rfl) ?_
    refine pw_get F I_M hK.1 hP f1 rfl 9 (by decide) L_M_26 (fun _ z => z) rfl d_M_goes_14 ?_
    refine lv_icmp_ne (tgt := 22) F.1 F.2.1 d_M_goes_17 (by decide) (fun c4 => ?_) (fun c4 => ?_)
    · skip
      refine lv_bipush (v := 6) F.1 F.2.1 d_M_goes_22 (by decide) ?_
      refine lv_iload_n F.1 F.2.1 d_M_goes_24 rfl (lv_at hl 1 rfl) ?_
      refine lv_imul F.1 F.2.1 d_M_goes_25 ?_
      refine W.eq (g2 := F0 m 26 ls [.int (nI (6 * t))]) (by rw [show (6 : Int32) = nI 6 from rfl, pk_mul]) ?_
      refine lv_aload_n F.1 F.2.1 d_M_goes_26 rfl (lv_at hl 0 rfl) ?_
      refine pw_get F I_M hK.1 hP f1 rfl 17 (by decide) L_M_48 (fun _ z => z) rfl d_M_goes_27 ?_
      refine lv_iload_n F.1 F.2.1 d_M_goes_30 rfl (lv_at hl 1 rfl) ?_
      have f5 : h (ad 11) = some (.inl (cs 0, 4, .inl (S 11))) := hR.2.1 11 (by decide)
      refine pw_ialdN F hK.1 hP 0 f5 rfl (k := t) (by omega) (by decide) d_M_goes_31 ?_
      refine W.eq (g2 := F0 m 32 ls [.int (nI (d + 1)), .int (nI (6 * t))]) (by rw [hd]) ?_
      refine lv_iadd F.1 F.2.1 d_M_goes_32 ?_
      refine W.eq (g2 := F0 m 33 ls [.int (nI (6 * t + (d + 1)))]) (by rw [nI_add]) ?_
      refine lv_iconst (v := 1) F.1 F.2.1 d_M_goes_33 (by decide) ?_
      refine lv_isub F.1 F.2.1 d_M_goes_34 ?_
      refine W.eq (g2 := F0 m 35 ls [.int (nI (6 * t + d))]) (by rw [show (1 : Int32) = nI 1 from rfl, show nI (6 * t + (d + 1)) - nI 1 = nI (6 * t + d) from by rw [pk_sub (by omega), show 6 * t + (d + 1) - 1 = 6 * t + d by omega]]) ?_
      refine lv_istore_n F.1 F.2.1 d_M_goes_35 rfl hl (by decide) rfl (fun ls hl => ?_)
      replace hl : lv_has ls 5 [(2, .int (nI (6 * t + d))), (0, .ref o), (1, .int (nI t))] := hl
      refine lv_aload_n F.1 F.2.1 d_M_goes_36 rfl (lv_at hl 1 rfl) ?_
      refine pw_get F I_M hK.1 hP f1 rfl 20 (by decide) L_M_57 (fun _ z => z) rfl d_M_goes_37 ?_
      refine lv_iload_n F.1 F.2.1 d_M_goes_40 rfl (lv_at hl 0 rfl) ?_
      have f6 : h (ad 14) = some (.inl (cs 0, 24, .inl (S 14))) := hR.2.1 14 (by decide)
      refine pw_ialdN F hK.1 hP 0 f6 rfl (k := 6 * t + d) (by omega) (by decide) d_M_goes_41 ?_
      refine W.eq (g2 := F0 m 42 ls [.int (nI a)]) (by rw [ha]) ?_
      refine lv_aload_n F.1 F.2.1 d_M_goes_42 rfl (lv_at hl 1 rfl) ?_
      refine pw_get F I_M hK.1 hP f1 rfl 4 (by decide) L_M_17 (fun _ z => z) rfl d_M_goes_43 ?_
      refine lv_aload_n F.1 F.2.1 d_M_goes_46 rfl (lv_at hl 1 rfl) ?_
      refine pw_get F I_M hK.1 hP f1 rfl 18 (by decide) L_M_51 (fun _ z => z) rfl d_M_goes_47 ?_
      refine lv_iload_n F.1 F.2.1 d_M_goes_50 rfl (lv_at hl 0 rfl) ?_
      have f7 : h (ad 12) = some (.inl (cs 0, 24, .inl (S 12))) := hR.2.1 12 (by decide)
      refine pw_ialdN F hK.1 hP 0 f7 rfl (k := 6 * t + d) (by omega) (by decide) d_M_goes_51 ?_
      refine W.eq (g2 := F0 m 52 ls [.int (nI r), .ref (ad 2), .int (nI a)]) (by rw [hrw]) ?_
      have f8 : h (ad 2) = some (.inl (cs 0, 56, .inl (S 2))) := hR.2.1 2 (by decide)
      refine pw_ialdN F hK.1 hP 0 f8 rfl (k := r) (by omega) (by decide) d_M_goes_52 ?_
      refine W.eq (g2 := F0 m 53 ls [.int (nI z), .int (nI a)]) (by rw [hz]) ?_
      refine lv_icmp_ne (tgt := 72) F.1 F.2.1 d_M_goes_53 (by decide) (fun c9 => ?_) (fun c9 => ?_)
      · skip
        refine lv_aload_n F.1 F.2.1 d_M_goes_72 rfl (lv_at hl 1 rfl) ?_
        refine pw_get F I_M hK.1 hP f1 rfl 5 (by decide) L_M_20 (fun _ z => z) rfl d_M_goes_73 ?_
        refine lv_bipush (v := 12) F.1 F.2.1 d_M_goes_76 (by decide) ?_
        refine lv_aload_n F.1 F.2.1 d_M_goes_78 rfl (lv_at hl 1 rfl) ?_
        refine pw_get F I_M hK.1 hP f1 rfl 18 (by decide) L_M_51 (fun _ z => z) rfl d_M_goes_79 ?_
        refine lv_iload_n F.1 F.2.1 d_M_goes_82 rfl (lv_at hl 0 rfl) ?_
        refine pw_ialdN F hK.1 hP 0 f7 rfl (k := 6 * t + d) (by omega) (by decide) d_M_goes_83 ?_
        refine W.eq (g2 := F0 m 84 ls [.int (nI r), .int 12, .ref (ad 3)]) (by rw [hrw]) ?_
        refine lv_imul F.1 F.2.1 d_M_goes_84 ?_
        refine W.eq (g2 := F0 m 85 ls [.int (nI (12 * r)), .ref (ad 3)]) (by rw [show (12 : Int32) = nI 12 from rfl, pk_mul]) ?_
        refine lv_aload_n F.1 F.2.1 d_M_goes_85 rfl (lv_at hl 1 rfl) ?_
        refine pw_get F I_M hK.1 hP f1 rfl 20 (by decide) L_M_57 (fun _ z => z) rfl d_M_goes_86 ?_
        refine lv_iload_n F.1 F.2.1 d_M_goes_89 rfl (lv_at hl 0 rfl) ?_
        refine pw_ialdN F hK.1 hP 0 f6 rfl (k := 6 * t + d) (by omega) (by decide) d_M_goes_90 ?_
        refine W.eq (g2 := F0 m 91 ls [.int (nI a), .int (nI (12 * r)), .ref (ad 3)]) (by rw [ha]) ?_
        refine lv_iadd F.1 F.2.1 d_M_goes_91 ?_
        refine W.eq (g2 := F0 m 92 ls [.int (nI (12 * r + a)), .ref (ad 3)]) (by rw [nI_add]) ?_
        have f10 : h (ad 3) = some (.inl (cs 0, 672, .inl (S 3))) := hR.2.1 3 (by decide)
        refine pw_ialdN F hK.1 hP 0 f10 rfl (k := 12 * r + a) (by omega) (by decide) d_M_goes_92 ?_
        refine lv_iconst (v := 2) F.1 F.2.1 d_M_goes_93 (by decide) ?_
        refine lv_icmp_eq (tgt := 99) F.1 F.2.1 d_M_goes_94 (by decide) (fun c11 => ?_) (fun c11 => ?_)
        · skip
          refine lv_iconst (v := 0) F.1 F.2.1 d_M_goes_99 (by decide) ?_
          refine lv_istore_n F.1 F.2.1 d_M_goes_100 rfl hl (by decide) rfl (fun ls hl => ?_)
          replace hl : lv_has ls 5 [(3, .int 0), (2, .int (nI (6 * t + d))), (0, .ref o), (1, .int (nI t))] := hl
          refine lv_bipush (v := 6) F.1 F.2.1 d_M_goes_101 (by decide) ?_
          refine lv_iload_n F.1 F.2.1 d_M_goes_103 rfl (lv_at hl 3 rfl) ?_
          refine lv_imul F.1 F.2.1 d_M_goes_104 ?_
          refine W.eq (g2 := F0 m 105 ls [.int (nI (6 * t))]) (by rw [show (6 : Int32) = nI 6 from rfl, pk_mul]) ?_
          refine lv_istore F.1 F.2.1 d_M_goes_105 hl (by decide) rfl (fun ls hl => ?_)
          replace hl : lv_has ls 5 [(4, .int (nI (6 * t))), (3, .int 0), (2, .int (nI (6 * t + d))), (0, .ref o), (1, .int (nI t))] := hl
          obtain ⟨k, hk0⟩ : ∃ k : Nat, k = 0 := ⟨0, rfl⟩
          obtain ⟨b, hb0⟩ : ∃ b : Int32, b = 0 := ⟨0, rfl⟩
          have hb : (b = 0 ∧ ∀ j, j < k → S 0 (8 * pT + tn (S 12 (6 * t + j)) % 8) = 0) ∨ (b = 1 ∧ ∃ j, j < k ∧ ¬ S 0 (8 * pT + tn (S 12 (6 * t + j)) % 8) = 0) := Or.inl ⟨hb0, fun j hj => by omega⟩
          have hle : k ≤ d + 1 := by omega
          obtain ⟨n, hn⟩ : ∃ n : Nat, d + 1 - k = n := ⟨_, rfl⟩
          replace hl : lv_has ls 5 [(4, .int (nI (6 * t + k))), (3, .int b), (2, .int (nI (6 * t + d))), (0, .ref o), (1, .int (nI t))] := by rw [hk0, hb0]; exact hl
          clear hk0 hb0
          induction n generalizing ls k b with
          | zero =>
            refine lv_iload F.1 F.2.1 d_M_goes_107 (lv_at hl 0 rfl) ?_
            refine lv_iload_n F.1 F.2.1 d_M_goes_109 rfl (lv_at hl 2 rfl) ?_
            refine lv_icmp_gt (tgt := 155) F.1 F.2.1 d_M_goes_110 (by decide) (fun c12 => ?_) (fun c12 => absurd (nI_lt (show 6 * t + d < 6 * t + k by omega) (by omega)) c12)
            refine lv_iload_n F.1 F.2.1 d_M_goes_155 rfl (lv_at hl 1 rfl) ?_
            refine lv_if_ne (tgt := 163) F.1 F.2.1 d_M_goes_156 (by decide) (fun c13 => ?_) (fun c13 => ?_)
            · skip
              refine lv_iconst (v := 0) F.1 F.2.1 d_M_goes_163 (by decide) ?_
              exact pw_zret F hr rfl hlk hP hA hK hS (by decide) (by decide) d_M_goes_164 (by exact ⟨rfl, fun z9 => absurd ((mGoes_iff hd h6 hrw hr48 ha (by omega)).mp z9) (fun z => z.2.2.elim (fun z => c9 (z.1.trans hz)) (fun z => hb.elim (fun hb => absurd hb.1 c13) (fun hb => hb.2.elim (fun j h9 => h9.2 ((mClear_iff hd h6 hp hp5).mp z.2.2 j (by have := h9.1; omega)))))), fun _ => rfl⟩)
            · skip
              refine lv_iconst (v := 1) F.1 F.2.1 d_M_goes_159 (by decide) ?_
              refine lv_goto (tgt := 164) F.1 F.2.1 d_M_goes_160 (by decide) ?_
              exact pw_zret F hr rfl hlk hP hA hK hS (by decide) (by decide) d_M_goes_164 (by exact ⟨rfl, fun _ => rfl, fun z9 => absurd ((mGoes_iff hd h6 hrw hr48 ha (by omega)).mpr ⟨c2, c4, Or.inr ⟨fun z => c9 (z.trans hz), c11, (mClear_iff hd h6 hp hp5).mpr (hb.elim (fun hb j hj => hb.2 j (by omega)) (fun hb => absurd (hb.1.symm.trans c13) (by decide)))⟩⟩) z9⟩)
          | succ n ih =>
            obtain ⟨rk, hrk, hrow⟩ := rows k (by omega)
            refine lv_iload F.1 F.2.1 d_M_goes_107 (lv_at hl 0 rfl) ?_
            refine lv_iload_n F.1 F.2.1 d_M_goes_109 rfl (lv_at hl 2 rfl) ?_
            refine lv_icmp_gt (tgt := 155) F.1 F.2.1 d_M_goes_110 (by decide) (fun c14 => absurd c14 (nI_nlt (show 6 * t + k ≤ 6 * t + d by omega) (by omega))) (fun c14 => ?_)
            refine lv_iload_n F.1 F.2.1 d_M_goes_113 rfl (lv_at hl 1 rfl) ?_
            refine lv_if_ne (tgt := 143) F.1 F.2.1 d_M_goes_114 (by decide) (fun c15 => ?_) (fun c15 => ?_)
            · skip
              refine lv_iconst (v := 1) F.1 F.2.1 d_M_goes_143 (by decide) ?_
              refine lv_goto (tgt := 148) F.1 F.2.1 d_M_goes_144 (by decide) ?_
              refine lv_istore_n F.1 F.2.1 d_M_goes_148 rfl hl (by decide) rfl (fun ls hl => ?_)
              replace hl : lv_has ls 5 [(3, .int 1), (4, .int (nI (6 * t + k))), (2, .int (nI (6 * t + d))), (0, .ref o), (1, .int (nI t))] := hl
              refine lv_iinc (k := 1) (v := nI (6 * t + (k + 1))) F.1 F.2.1 d_M_goes_149 hl rfl (by rw [show Int32.ofInt 1 = nI 1 from rfl, nI_add]; rfl) (by decide) rfl (fun ls hl => ?_)
              replace hl : lv_has ls 5 [(4, .int (nI (6 * t + (k + 1)))), (3, .int 1), (2, .int (nI (6 * t + d))), (0, .ref o), (1, .int (nI t))] := hl
              refine lv_goto (tgt := 107) F.1 F.2.1 d_M_goes_152 (by decide) ?_
              have hb9 : ((1 : Int32) = 0 ∧ ∀ j, j < k + 1 → S 0 (8 * pT + tn (S 12 (6 * t + j)) % 8) = 0) ∨ ((1 : Int32) = 1 ∧ ∃ j, j < k + 1 ∧ ¬ S 0 (8 * pT + tn (S 12 (6 * t + j)) % 8) = 0) := Or.inr ⟨rfl, hb.elim (fun hb => absurd hb.1 c15) (fun hb => hb.2.elim (fun j h9 => ⟨j, by have := h9.1; omega, h9.2⟩))⟩
              exact ih (ls := ls) (k := k + 1) (b := 1) (by first | exact hl | exact hb9 | omega) (by first | exact hl | exact hb9 | omega) (by first | exact hl | exact hb9 | omega) (by first | exact hl | exact hb9 | omega)
            · skip
              refine lv_aload_n F.1 F.2.1 d_M_goes_117 rfl (lv_at hl 3 rfl) ?_
              refine pw_get F I_M hK.1 hP f1 rfl 2 (by decide) L_M_7 (fun _ z => z) rfl d_M_goes_118 ?_
              refine lv_bipush (v := 8) F.1 F.2.1 d_M_goes_121 (by decide) ?_
              refine lv_aload_n F.1 F.2.1 d_M_goes_123 rfl (lv_at hl 3 rfl) ?_
              refine pw_get F I_M hK.1 hP f1 rfl 8 (by decide) L_M_69 (fun _ z => z) rfl d_M_goes_124 ?_
              refine W.eq (g2 := F0 m 127 ls [.int (nI pT), .int 8, .ref (ad 0)]) (by rw [hp]) ?_
              refine lv_imul F.1 F.2.1 d_M_goes_127 ?_
              refine W.eq (g2 := F0 m 128 ls [.int (nI (8 * pT)), .ref (ad 0)]) (by rw [show (8 : Int32) = nI 8 from rfl, pk_mul]) ?_
              refine lv_aload_n F.1 F.2.1 d_M_goes_128 rfl (lv_at hl 3 rfl) ?_
              refine pw_get F I_M hK.1 hP f1 rfl 18 (by decide) L_M_51 (fun _ z => z) rfl d_M_goes_129 ?_
              refine lv_iload F.1 F.2.1 d_M_goes_132 (lv_at hl 0 rfl) ?_
              refine pw_ialdN F hK.1 hP 0 f7 rfl (k := 6 * t + k) (by omega) (by decide) d_M_goes_134 ?_
              refine W.eq (g2 := F0 m 135 ls [.int (nI rk), .int (nI (8 * pT)), .ref (ad 0)]) (by rw [hrow]) ?_
              refine lv_bipush (v := 8) F.1 F.2.1 d_M_goes_135 (by decide) ?_
              refine lv_irem F.1 F.2.1 d_M_goes_137 (by decide) ?_
              refine W.eq (g2 := F0 m 138 ls [.int (nI (rk % 8)), .int (nI (8 * pT)), .ref (ad 0)]) (by rw [show (8 : Int32) = nI 8 from rfl, pk_rem (by omega) (by decide) (by decide)]) ?_
              refine lv_iadd F.1 F.2.1 d_M_goes_138 ?_
              refine W.eq (g2 := F0 m 139 ls [.int (nI (8 * pT + (rk % 8))), .ref (ad 0)]) (by rw [nI_add]) ?_
              have f16 : h (ad 0) = some (.inl (cs 1, 56, .inl (S 0))) := hR.2.1 0 (by decide)
              refine pw_zaldN F hK.1 hP 1 f16 rfl (k := 8 * pT + (rk % 8)) (by omega) (by decide) d_M_goes_139 ?_
              refine lv_if_eq (tgt := 147) F.1 F.2.1 d_M_goes_140 (by decide) (fun c17 => ?_) (fun c17 => ?_)
              · skip
                refine lv_iconst (v := 0) F.1 F.2.1 d_M_goes_147 (by decide) ?_
                refine lv_istore_n F.1 F.2.1 d_M_goes_148 rfl hl (by decide) rfl (fun ls hl => ?_)
                replace hl : lv_has ls 5 [(3, .int 0), (4, .int (nI (6 * t + k))), (2, .int (nI (6 * t + d))), (0, .ref o), (1, .int (nI t))] := hl
                refine lv_iinc (k := 1) (v := nI (6 * t + (k + 1))) F.1 F.2.1 d_M_goes_149 hl rfl (by rw [show Int32.ofInt 1 = nI 1 from rfl, nI_add]; rfl) (by decide) rfl (fun ls hl => ?_)
                replace hl : lv_has ls 5 [(4, .int (nI (6 * t + (k + 1)))), (3, .int 0), (2, .int (nI (6 * t + d))), (0, .ref o), (1, .int (nI t))] := hl
                refine lv_goto (tgt := 107) F.1 F.2.1 d_M_goes_152 (by decide) ?_
                have hb9 : ((0 : Int32) = 0 ∧ ∀ j, j < k + 1 → S 0 (8 * pT + tn (S 12 (6 * t + j)) % 8) = 0) ∨ ((0 : Int32) = 1 ∧ ∃ j, j < k + 1 ∧ ¬ S 0 (8 * pT + tn (S 12 (6 * t + j)) % 8) = 0) := Or.inl ⟨rfl, fun j hj => hb.elim (fun hb => (Nat.lt_or_ge j k).elim (fun h9 => hb.2 j h9) (fun h9 => by rw [show j = k by omega, hrow, tn_nI (by omega)]; exact c17)) (fun hb => absurd (hb.1.symm.trans c15) (by decide))⟩
                exact ih (ls := ls) (k := k + 1) (b := 0) (by first | exact hl | exact hb9 | omega) (by first | exact hl | exact hb9 | omega) (by first | exact hl | exact hb9 | omega) (by first | exact hl | exact hb9 | omega)
              · skip
                refine lv_iconst (v := 1) F.1 F.2.1 d_M_goes_143 (by decide) ?_
                refine lv_goto (tgt := 148) F.1 F.2.1 d_M_goes_144 (by decide) ?_
                refine lv_istore_n F.1 F.2.1 d_M_goes_148 rfl hl (by decide) rfl (fun ls hl => ?_)
                replace hl : lv_has ls 5 [(3, .int 1), (4, .int (nI (6 * t + k))), (2, .int (nI (6 * t + d))), (0, .ref o), (1, .int (nI t))] := hl
                refine lv_iinc (k := 1) (v := nI (6 * t + (k + 1))) F.1 F.2.1 d_M_goes_149 hl rfl (by rw [show Int32.ofInt 1 = nI 1 from rfl, nI_add]; rfl) (by decide) rfl (fun ls hl => ?_)
                replace hl : lv_has ls 5 [(4, .int (nI (6 * t + (k + 1)))), (3, .int 1), (2, .int (nI (6 * t + d))), (0, .ref o), (1, .int (nI t))] := hl
                refine lv_goto (tgt := 107) F.1 F.2.1 d_M_goes_152 (by decide) ?_
                have hb9 : ((1 : Int32) = 0 ∧ ∀ j, j < k + 1 → S 0 (8 * pT + tn (S 12 (6 * t + j)) % 8) = 0) ∨ ((1 : Int32) = 1 ∧ ∃ j, j < k + 1 ∧ ¬ S 0 (8 * pT + tn (S 12 (6 * t + j)) % 8) = 0) := Or.inr ⟨rfl, k, by omega, by rw [hrow, tn_nI (by omega)]; exact c17⟩
                exact ih (ls := ls) (k := k + 1) (b := 1) (by first | exact hl | exact hb9 | omega) (by first | exact hl | exact hb9 | omega) (by first | exact hl | exact hb9 | omega) (by first | exact hl | exact hb9 | omega)
        · skip
          refine lv_iconst (v := 0) F.1 F.2.1 d_M_goes_97 (by decide) ?_
          exact pw_zret F hr rfl hlk hP hA hK hS (by decide) (by decide) d_M_goes_98 (by exact ⟨rfl, fun z9 => absurd ((mGoes_iff hd h6 hrw hr48 ha (by omega)).mp z9) (fun z => z.2.2.elim (fun z => c9 (z.1.trans hz)) (fun z => c11 z.2.1)), fun _ => rfl⟩)
      · skip
        refine lv_aload_n F.1 F.2.1 d_M_goes_56 rfl (lv_at hl 1 rfl) ?_
        refine pw_get F I_M hK.1 hP f1 rfl 17 (by decide) L_M_48 (fun _ z => z) rfl d_M_goes_57 ?_
        refine lv_iload_n F.1 F.2.1 d_M_goes_60 rfl (lv_at hl 2 rfl) ?_
        refine pw_ialdN F hK.1 hP 0 f5 rfl (k := t) (by omega) (by decide) d_M_goes_61 ?_
        refine W.eq (g2 := F0 m 62 ls [.int (nI (d + 1))]) (by rw [hd]) ?_
        refine lv_iconst (v := 1) F.1 F.2.1 d_M_goes_62 (by decide) ?_
        refine lv_icmp_ne (tgt := 70) F.1 F.2.1 d_M_goes_63 (by decide) (fun c18 => ?_) (fun c18 => ?_)
        · skip
          refine lv_iconst (v := 0) F.1 F.2.1 d_M_goes_70 (by decide) ?_
          exact pw_zret F hr rfl hlk hP hA hK hS (by decide) (by decide) d_M_goes_71 (by exact ⟨rfl, fun z9 => absurd ((mGoes_iff hd h6 hrw hr48 ha (by omega)).mp z9) (fun z => z.2.2.elim (fun z => c18 z.2) (fun z => z.1 (c9.trans hz.symm))), fun _ => rfl⟩)
        · skip
          refine lv_iconst (v := 1) F.1 F.2.1 d_M_goes_66 (by decide) ?_
          refine lv_goto (tgt := 71) F.1 F.2.1 d_M_goes_67 (by decide) ?_
          exact pw_zret F hr rfl hlk hP hA hK hS (by decide) (by decide) d_M_goes_71 (by exact ⟨rfl, fun _ => rfl, fun z9 => absurd ((mGoes_iff hd h6 hrw hr48 ha (by omega)).mpr ⟨c2, c4, Or.inl ⟨c9.trans hz.symm, c18⟩⟩) z9⟩)
    · skip
      refine lv_iconst (v := 0) F.1 F.2.1 d_M_goes_20 (by decide) ?_
      exact pw_zret F hr rfl hlk hP hA hK hS (by decide) (by decide) d_M_goes_21 (by exact ⟨rfl, fun z9 => absurd ((mGoes_iff hd h6 hrw hr48 ha (by omega)).mp z9) (fun z => z.2.1 c4), fun _ => rfl⟩)
end
section
theorem mOnce_ret {S : St} {t d r a mf : Nat} (hd : S 11 t = nI (d + 1)) (h6 : d < 6) (hr : S 12 (6 * t + d) = nI r) (hr48 : r < 48) (ha : S 14 (6 * t + d) = nI a) (he : nI a = S 2 r) (hm : S 5 t = nI mf) (hmf : mf < 8) :
    mOnce S t = if nI d = 0 then mEnter (sp (sp S 8 t (S 8 t + 1)) 11 t (nI d)) t mf else sp (sp S 8 t (S 8 t + 1)) 11 t (nI d) := by
  have h1 : mEnd S (mTop S t) := by
    rw [mTop_eq hd h6]
    show S 14 (6 * t + d) = S 2 (tn (S 12 (6 * t + d)))
    rw [hr, tn_nI (by omega), ha]; exact he
  unfold mOnce
  rw [if_pos h1, hd, nI_pred, hm, tn_nI (by omega)]
theorem mOnce_op {S : St} {t d r a : Nat} (hd : S 11 t = nI (d + 1)) (h6 : d < 6) (hr : S 12 (6 * t + d) = nI r) (hr48 : r < 48) (ha : S 14 (6 * t + d) = nI a) (ha12 : a ≤ 12) (he : ¬ nI a = S 2 r) :
    mOnce S t = mDo (sp (sp S 8 t (S 8 t + 1)) 14 (6 * t + d) (nI (a + 1))) t (6 * t + d) (S 3 (12 * r + a)) (S 4 (12 * r + a)) := by
  have h1 : ¬ mEnd S (mTop S t) := by
    rw [mTop_eq hd h6]
    show ¬ S 14 (6 * t + d) = S 2 (tn (S 12 (6 * t + d)))
    rw [hr, tn_nI (by omega), ha]; exact he
  unfold mOnce mOp
  rw [if_neg h1, mTop_eq hd h6, hr, ha, tn_nI (by omega), tn_nI (by omega), nI_1]
theorem mDo_0 {S : St} {t i : Nat} {n : Int32} : mDo S t i 0 n = sp S 7 t (S 7 t + n) := by
  unfold mDo; rw [if_pos rfl]
theorem mDo_1 {S : St} {t i : Nat} {n : Int32} : mDo S t i 1 n = mEnter S t (tn n) := by
  unfold mDo; rw [if_neg (by decide), if_pos (Or.inl rfl)]
theorem mDo_5t {S : St} {t i : Nat} {n : Int32} (h : mEven (S 7 t)) : mDo S t i 5 n = mEnter S t (tn n) := by
  unfold mDo; rw [if_neg (by decide), if_pos (Or.inr ⟨rfl, h⟩)]
theorem mDo_5f {S : St} {t i : Nat} {n : Int32} (h : ¬ mEven (S 7 t)) : mDo S t i 5 n = S := by
  unfold mDo
  rw [if_neg (by decide), if_neg (fun z => z.elim (fun z => absurd z (by decide)) (fun z => h z.2)), if_neg (fun z => absurd z.1 (by decide)), if_neg (by decide)]
theorem mDo_2 {S : St} {t i : Nat} {n : Int32} : mDo S t i 2 n = S := by
  unfold mDo
  rw [if_neg (by decide), if_neg (fun z => z.elim (fun z => absurd z (by decide)) (fun z => absurd z.1 (by decide))), if_neg (fun z => absurd z.1 (by decide)), if_neg (by decide)]
theorem mDo_3t {S : St} {t i : Nat} {n : Int32} (h : S 15 i < 3) : mDo S t i 3 n = sp (sp S 15 i (S 15 i + 1)) 14 i n := by
  unfold mDo
  rw [if_neg (by decide), if_neg (fun z => z.elim (fun z => absurd z (by decide)) (fun z => absurd z.1 (by decide))), if_pos ⟨rfl, h⟩]
theorem mDo_3f {S : St} {t i : Nat} {n : Int32} (h : ¬ S 15 i < 3) : mDo S t i 3 n = S := by
  unfold mDo
  rw [if_neg (by decide), if_neg (fun z => z.elim (fun z => absurd z (by decide)) (fun z => absurd z.1 (by decide))), if_neg (fun z => h z.2), if_neg (by decide)]
theorem mDo_4 {S : St} {t i : Nat} {n : Int32} : mDo S t i 4 n = sp (sp S 9 t (S 9 t + 1)) 10 t (S 7 t) := by
  unfold mDo
  rw [if_neg (by decide), if_neg (fun z => z.elim (fun z => absurd z (by decide)) (fun z => absurd z.1 (by decide))), if_neg (fun z => absurd z.1 (by decide)), if_pos rfl]
abbrev rm_M_stepOnce : Room := { frames := 2, cells := 0, slots := 0, locals := 47 }
set_option maxHeartbeats 4000000 in
set_option maxRecDepth 100000 in
theorem c_M_stepOnce (l : Launch) (D : va_G) (cs : Nat → Nat) (A : Nat → Prop) (h : pw_H) (o : Nat) (ad : Nat → Nat) (S : St) (hR : RM cs h o ad S) (t d r a z L mf : Nat) (ht : t < 4) (h6 : d < 6) (hd : S 11 t = nI (d + 1)) (hr48 : r < 48) (hrw : S 12 (6 * t + d) = nI r) (hz12 : z ≤ 12) (hz : S 2 r = nI z) (haz : a ≤ z) (ha : S 14 (6 * t + d) = nI a) (hL5 : L ≤ 5) (hL : S 6 t = nI L) (hmf : mf < 8) (hm : S 5 t = nI mf) (hkd : a < z → S 3 (12 * r + a) = 0 ∨ S 3 (12 * r + a) = 1 ∨ S 3 (12 * r + a) = 2 ∨ S 3 (12 * r + a) = 3 ∨ S 3 (12 * r + a) = 4 ∨ S 3 (12 * r + a) = 5) (hnm9 : a < z → S 3 (12 * r + a) = 1 ∨ S 3 (12 * r + a) = 5 → ∃ j, j < 8 ∧ S 4 (12 * r + a) = nI j) : pm l y_M_stepOnce b_M_stepOnce 5 none rm_M_stepOnce [.ref o, .int (nI t)] D cs A h (va_Qv (fun (h' : pw_H) => RM cs h' o ad (mOnce S t)) (ww D cs A) A) 0 0 := by
  refine pm_of R_M rfl (by decide) (Nat.le_of_ble_eq_true rfl) (fun p e s m below meth c ls F hr hlk hnm hP hA hK hl => ?_)
  have hS : va_S A s.heap s.heap [] := va_S.rf
  replace hl : lv_has ls 5 [(0, .ref o), (1, .int (nI t))] := hl
  refine lv_aload_n F.1 F.2.1 d_M_stepOnce_0 rfl (lv_at hl 0 rfl) ?_
  have f1 : h o = some (.inr (7, [.int (S 16 0), .int (S 16 1), .ref (ad 0), .ref (ad 1), .ref (ad 2), .ref (ad 3), .ref (ad 4), .int (S 16 2), .int (S 16 3), .int (S 16 4), .int (S 16 5), .ref (ad 5), .ref (ad 6), .ref (ad 7), .ref (ad 8), .ref (ad 9), .ref (ad 10), .ref (ad 11), .ref (ad 12), .ref (ad 13), .ref (ad 14), .ref (ad 15)])) := hR.1
  refine pw_get F I_M hK.1 hP f1 rfl 14 (by decide) L_M_39 (fun _ z => z) rfl d_M_stepOnce_1 ?_
  refine lv_iload_n F.1 F.2.1 d_M_stepOnce_4 rfl (lv_at hl 1 rfl) ?_
  refine lv_dup2_11 F.1 F.2.1 d_M_stepOnce_5 rfl rfl ?_
  have f2 : h (ad 8) = some (.inl (cs 0, 4, .inl (S 8))) := hR.2.1 8 (by decide)
  refine pw_ialdN F hK.1 hP 0 f2 rfl (k := t) (by omega) (by decide) d_M_stepOnce_6 ?_
  refine lv_iconst (v := 1) F.1 F.2.1 d_M_stepOnce_7 (by decide) ?_
  refine lv_iadd F.1 F.2.1 d_M_stepOnce_8 ?_
  refine pw_iastN F hK.1 hP hS 0 f2 rfl (k := t) (by omega) (by decide) d_M_stepOnce_9 (fun H locs hP hS => ?_)
  have hP : pw D vwCl A (pu h (ad 8) (.inl (cs 0, 4, .inl (upd (S 8) t ((S 8 t) + 1))))) H := hP
  have hR := hR.arr (show 8 < 16 by decide) t ((S 8 t) + 1)
  obtain ⟨h3, e4⟩ : ∃ z9 : pw_H, z9 = pu h (ad 8) (.inl (cs 0, 4, .inl (upd (S 8) t ((S 8 t) + 1)))) := ⟨_, rfl⟩
  rw [← e4] at hP
  obtain ⟨S5, t6⟩ : ∃ z9 : St, z9 = sp S 8 t ((S 8 t) + 1) := ⟨_, rfl⟩
  have hR : RM cs h3 o ad S5 := by rw [e4, t6]; exact hR
  refine lv_bipush (v := 6) F.1 F.2.1 d_M_stepOnce_10 (by decide) ?_
  refine lv_iload_n F.1 F.2.1 d_M_stepOnce_12 rfl (lv_at hl 1 rfl) ?_
  refine lv_imul F.1 F.2.1 d_M_stepOnce_13 ?_
  refine W.eq (g2 := F0 m 14 ls [.int (nI (6 * t))]) (by rw [show (6 : Int32) = nI 6 from rfl, pk_mul]) ?_
  refine lv_aload_n F.1 F.2.1 d_M_stepOnce_14 rfl (lv_at hl 0 rfl) ?_
  have f7 : h3 o = some (.inr (7, [.int (S5 16 0), .int (S5 16 1), .ref (ad 0), .ref (ad 1), .ref (ad 2), .ref (ad 3), .ref (ad 4), .int (S5 16 2), .int (S5 16 3), .int (S5 16 4), .int (S5 16 5), .ref (ad 5), .ref (ad 6), .ref (ad 7), .ref (ad 8), .ref (ad 9), .ref (ad 10), .ref (ad 11), .ref (ad 12), .ref (ad 13), .ref (ad 14), .ref (ad 15)])) := hR.1
  refine pw_get F I_M hK.1 hP f7 rfl 17 (by decide) L_M_48 (fun _ z => z) rfl d_M_stepOnce_15 ?_
  refine lv_iload_n F.1 F.2.1 d_M_stepOnce_18 rfl (lv_at hl 1 rfl) ?_
  have f8 : h3 (ad 11) = some (.inl (cs 0, 4, .inl (S5 11))) := hR.2.1 11 (by decide)
  refine pw_ialdN F hK.1 hP 0 f8 rfl (k := t) (by omega) (by decide) d_M_stepOnce_19 ?_
  refine W.eq (g2 := F0 m 20 ls [.int (nI (d + 1)), .int (nI (6 * t))]) (by rw [show S5 11 t = S 11 t from by rw [t6]; exact sp_k (by decide), hd]) ?_
  refine lv_iadd F.1 F.2.1 d_M_stepOnce_20 ?_
  refine W.eq (g2 := F0 m 21 ls [.int (nI (6 * t + (d + 1)))]) (by rw [nI_add]) ?_
  refine lv_iconst (v := 1) F.1 F.2.1 d_M_stepOnce_21 (by decide) ?_
  refine lv_isub F.1 F.2.1 d_M_stepOnce_22 ?_
  refine W.eq (g2 := F0 m 23 ls [.int (nI (6 * t + d))]) (by rw [show (1 : Int32) = nI 1 from rfl, show nI (6 * t + (d + 1)) - nI 1 = nI (6 * t + d) from by rw [pk_sub (by omega), show 6 * t + (d + 1) - 1 = 6 * t + d by omega]]) ?_
  refine lv_istore_n F.1 F.2.1 d_M_stepOnce_23 rfl hl (by decide) rfl (fun ls hl => ?_)
  replace hl : lv_has ls 5 [(2, .int (nI (6 * t + d))), (0, .ref o), (1, .int (nI t))] := hl
  refine lv_aload_n F.1 F.2.1 d_M_stepOnce_24 rfl (lv_at hl 1 rfl) ?_
  refine pw_get F I_M hK.1 hP f7 rfl 20 (by decide) L_M_57 (fun _ z => z) rfl d_M_stepOnce_25 ?_
  refine lv_iload_n F.1 F.2.1 d_M_stepOnce_28 rfl (lv_at hl 0 rfl) ?_
  have f9 : h3 (ad 14) = some (.inl (cs 0, 24, .inl (S5 14))) := hR.2.1 14 (by decide)
  refine pw_ialdN F hK.1 hP 0 f9 rfl (k := 6 * t + d) (by omega) (by decide) d_M_stepOnce_29 ?_
  refine W.eq (g2 := F0 m 30 ls [.int (nI a)]) (by rw [show S5 14 (6 * t + d) = S 14 (6 * t + d) from by rw [t6]; exact sp_k (by decide), ha]) ?_
  refine lv_aload_n F.1 F.2.1 d_M_stepOnce_30 rfl (lv_at hl 1 rfl) ?_
  refine pw_get F I_M hK.1 hP f7 rfl 4 (by decide) L_M_17 (fun _ z => z) rfl d_M_stepOnce_31 ?_
  refine lv_aload_n F.1 F.2.1 d_M_stepOnce_34 rfl (lv_at hl 1 rfl) ?_
  refine pw_get F I_M hK.1 hP f7 rfl 18 (by decide) L_M_51 (fun _ z => z) rfl d_M_stepOnce_35 ?_
  refine lv_iload_n F.1 F.2.1 d_M_stepOnce_38 rfl (lv_at hl 0 rfl) ?_
  have f10 : h3 (ad 12) = some (.inl (cs 0, 24, .inl (S5 12))) := hR.2.1 12 (by decide)
  refine pw_ialdN F hK.1 hP 0 f10 rfl (k := 6 * t + d) (by omega) (by decide) d_M_stepOnce_39 ?_
  refine W.eq (g2 := F0 m 40 ls [.int (nI r), .ref (ad 2), .int (nI a)]) (by rw [show S5 12 (6 * t + d) = S 12 (6 * t + d) from by rw [t6]; exact sp_k (by decide), hrw]) ?_
  have f11 : h3 (ad 2) = some (.inl (cs 0, 56, .inl (S5 2))) := hR.2.1 2 (by decide)
  refine pw_ialdN F hK.1 hP 0 f11 rfl (k := r) (by omega) (by decide) d_M_stepOnce_40 ?_
  refine W.eq (g2 := F0 m 41 ls [.int (nI z), .int (nI a)]) (by rw [show S5 2 r = S 2 r from by rw [t6]; exact sp_k (by decide), hz]) ?_
  refine lv_icmp_ne (tgt := 75) F.1 F.2.1 d_M_stepOnce_41 (by decide) (fun c12 => ?_) (fun c12 => ?_)
  · skip
    have hlt : a < z := by
      rcases Nat.lt_or_ge a z with h9 | h9
      · exact h9
      · exact absurd (show nI a = nI z by rw [show a = z by omega]) c12
    refine lv_aload_n F.1 F.2.1 d_M_stepOnce_75 rfl (lv_at hl 1 rfl) ?_
    refine pw_get F I_M hK.1 hP f7 rfl 5 (by decide) L_M_20 (fun _ z => z) rfl d_M_stepOnce_76 ?_
    refine lv_bipush (v := 12) F.1 F.2.1 d_M_stepOnce_79 (by decide) ?_
    refine lv_aload_n F.1 F.2.1 d_M_stepOnce_81 rfl (lv_at hl 1 rfl) ?_
    refine pw_get F I_M hK.1 hP f7 rfl 18 (by decide) L_M_51 (fun _ z => z) rfl d_M_stepOnce_82 ?_
    refine lv_iload_n F.1 F.2.1 d_M_stepOnce_85 rfl (lv_at hl 0 rfl) ?_
    refine pw_ialdN F hK.1 hP 0 f10 rfl (k := 6 * t + d) (by omega) (by decide) d_M_stepOnce_86 ?_
    refine W.eq (g2 := F0 m 87 ls [.int (nI r), .int 12, .ref (ad 3)]) (by rw [show S5 12 (6 * t + d) = S 12 (6 * t + d) from by rw [t6]; exact sp_k (by decide), hrw]) ?_
    refine lv_imul F.1 F.2.1 d_M_stepOnce_87 ?_
    refine W.eq (g2 := F0 m 88 ls [.int (nI (12 * r)), .ref (ad 3)]) (by rw [show (12 : Int32) = nI 12 from rfl, pk_mul]) ?_
    refine lv_aload_n F.1 F.2.1 d_M_stepOnce_88 rfl (lv_at hl 1 rfl) ?_
    refine pw_get F I_M hK.1 hP f7 rfl 20 (by decide) L_M_57 (fun _ z => z) rfl d_M_stepOnce_89 ?_
    refine lv_iload_n F.1 F.2.1 d_M_stepOnce_92 rfl (lv_at hl 0 rfl) ?_
    refine pw_ialdN F hK.1 hP 0 f9 rfl (k := 6 * t + d) (by omega) (by decide) d_M_stepOnce_93 ?_
    refine W.eq (g2 := F0 m 94 ls [.int (nI a), .int (nI (12 * r)), .ref (ad 3)]) (by rw [show S5 14 (6 * t + d) = S 14 (6 * t + d) from by rw [t6]; exact sp_k (by decide), ha]) ?_
    refine lv_iadd F.1 F.2.1 d_M_stepOnce_94 ?_
    refine W.eq (g2 := F0 m 95 ls [.int (nI (12 * r + a)), .ref (ad 3)]) (by rw [nI_add]) ?_
    have f13 : h3 (ad 3) = some (.inl (cs 0, 672, .inl (S5 3))) := hR.2.1 3 (by decide)
    refine pw_ialdN F hK.1 hP 0 f13 rfl (k := 12 * r + a) (by omega) (by decide) d_M_stepOnce_95 ?_
    refine W.eq (g2 := F0 m 96 ls [.int (S 3 (12 * r + a))]) (by rw [show S5 3 (12 * r + a) = S 3 (12 * r + a) from by rw [t6]; exact sp_k (by decide)]) ?_
    refine lv_istore_n F.1 F.2.1 d_M_stepOnce_96 rfl hl (by decide) rfl (fun ls hl => ?_)
    replace hl : lv_has ls 5 [(3, .int (S 3 (12 * r + a))), (2, .int (nI (6 * t + d))), (0, .ref o), (1, .int (nI t))] := hl
    refine lv_aload_n F.1 F.2.1 d_M_stepOnce_97 rfl (lv_at hl 2 rfl) ?_
    refine pw_get F I_M hK.1 hP f7 rfl 6 (by decide) L_M_23 (fun _ z => z) rfl d_M_stepOnce_98 ?_
    refine lv_bipush (v := 12) F.1 F.2.1 d_M_stepOnce_101 (by decide) ?_
    refine lv_aload_n F.1 F.2.1 d_M_stepOnce_103 rfl (lv_at hl 2 rfl) ?_
    refine pw_get F I_M hK.1 hP f7 rfl 18 (by decide) L_M_51 (fun _ z => z) rfl d_M_stepOnce_104 ?_
    refine lv_iload_n F.1 F.2.1 d_M_stepOnce_107 rfl (lv_at hl 1 rfl) ?_
    refine pw_ialdN F hK.1 hP 0 f10 rfl (k := 6 * t + d) (by omega) (by decide) d_M_stepOnce_108 ?_
    refine W.eq (g2 := F0 m 109 ls [.int (nI r), .int 12, .ref (ad 4)]) (by rw [show S5 12 (6 * t + d) = S 12 (6 * t + d) from by rw [t6]; exact sp_k (by decide), hrw]) ?_
    refine lv_imul F.1 F.2.1 d_M_stepOnce_109 ?_
    refine W.eq (g2 := F0 m 110 ls [.int (nI (12 * r)), .ref (ad 4)]) (by rw [show (12 : Int32) = nI 12 from rfl, pk_mul]) ?_
    refine lv_aload_n F.1 F.2.1 d_M_stepOnce_110 rfl (lv_at hl 2 rfl) ?_
    refine pw_get F I_M hK.1 hP f7 rfl 20 (by decide) L_M_57 (fun _ z => z) rfl d_M_stepOnce_111 ?_
    refine lv_iload_n F.1 F.2.1 d_M_stepOnce_114 rfl (lv_at hl 1 rfl) ?_
    refine pw_ialdN F hK.1 hP 0 f9 rfl (k := 6 * t + d) (by omega) (by decide) d_M_stepOnce_115 ?_
    refine W.eq (g2 := F0 m 116 ls [.int (nI a), .int (nI (12 * r)), .ref (ad 4)]) (by rw [show S5 14 (6 * t + d) = S 14 (6 * t + d) from by rw [t6]; exact sp_k (by decide), ha]) ?_
    refine lv_iadd F.1 F.2.1 d_M_stepOnce_116 ?_
    refine W.eq (g2 := F0 m 117 ls [.int (nI (12 * r + a)), .ref (ad 4)]) (by rw [nI_add]) ?_
    have f14 : h3 (ad 4) = some (.inl (cs 0, 672, .inl (S5 4))) := hR.2.1 4 (by decide)
    refine pw_ialdN F hK.1 hP 0 f14 rfl (k := 12 * r + a) (by omega) (by decide) d_M_stepOnce_117 ?_
    refine W.eq (g2 := F0 m 118 ls [.int (S 4 (12 * r + a))]) (by rw [show S5 4 (12 * r + a) = S 4 (12 * r + a) from by rw [t6]; exact sp_k (by decide)]) ?_
    refine lv_istore F.1 F.2.1 d_M_stepOnce_118 hl (by decide) rfl (fun ls hl => ?_)
    replace hl : lv_has ls 5 [(4, .int (S 4 (12 * r + a))), (3, .int (S 3 (12 * r + a))), (2, .int (nI (6 * t + d))), (0, .ref o), (1, .int (nI t))] := hl
    refine lv_aload_n F.1 F.2.1 d_M_stepOnce_120 rfl (lv_at hl 3 rfl) ?_
    refine pw_get F I_M hK.1 hP f7 rfl 20 (by decide) L_M_57 (fun _ z => z) rfl d_M_stepOnce_121 ?_
    refine lv_iload_n F.1 F.2.1 d_M_stepOnce_124 rfl (lv_at hl 2 rfl) ?_
    refine lv_dup2_11 F.1 F.2.1 d_M_stepOnce_125 rfl rfl ?_
    refine pw_ialdN F hK.1 hP 0 f9 rfl (k := 6 * t + d) (by omega) (by decide) d_M_stepOnce_126 ?_
    refine W.eq (g2 := F0 m 127 ls [.int (nI a), .int (nI (6 * t + d)), .ref (ad 14)]) (by rw [show S5 14 (6 * t + d) = S 14 (6 * t + d) from by rw [t6]; exact sp_k (by decide), ha]) ?_
    refine lv_iconst (v := 1) F.1 F.2.1 d_M_stepOnce_127 (by decide) ?_
    refine lv_iadd F.1 F.2.1 d_M_stepOnce_128 ?_
    refine W.eq (g2 := F0 m 129 ls [.int (nI (a + 1)), .int (nI (6 * t + d)), .ref (ad 14)]) (by rw [show (1 : Int32) = nI 1 from rfl, nI_add]) ?_
    refine pw_iastN F hK.1 hP hS 0 f9 rfl (k := 6 * t + d) (by omega) (by decide) d_M_stepOnce_129 (fun H locs hP hS => ?_)
    have hP : pw D vwCl A (pu h3 (ad 14) (.inl (cs 0, 24, .inl (upd (S5 14) (6 * t + d) (nI (a + 1)))))) H := hP
    have hR := hR.arr (show 14 < 16 by decide) (6 * t + d) (nI (a + 1))
    obtain ⟨h15, e16⟩ : ∃ z9 : pw_H, z9 = pu h3 (ad 14) (.inl (cs 0, 24, .inl (upd (S5 14) (6 * t + d) (nI (a + 1))))) := ⟨_, rfl⟩
    rw [← e16] at hP
    obtain ⟨S17, t18⟩ : ∃ z9 : St, z9 = sp S5 14 (6 * t + d) (nI (a + 1)) := ⟨_, rfl⟩
    have hR : RM cs h15 o ad S17 := by rw [e16, t18]; exact hR
    have hk9 := hkd hlt
    have hn9 := hnm9 hlt
    rcases hk9 with hk9 | hk9 | hk9 | hk9 | hk9 | hk9
    · skip
      replace hl : lv_has ls 5 [(4, .int (S 4 (12 * r + a))), (3, .int 0), (2, .int (nI (6 * t + d))), (0, .ref o), (1, .int (nI t))] := by rw [hk9] at hl; exact hl
      refine lv_iload_n F.1 F.2.1 d_M_stepOnce_130 rfl (lv_at hl 1 rfl) ?_
      refine lv_if_ne (tgt := 149) F.1 F.2.1 d_M_stepOnce_131 (by decide) (fun c19 => absurd (by decide) c19) (fun c19 => ?_)
      refine lv_aload_n F.1 F.2.1 d_M_stepOnce_134 rfl (lv_at hl 3 rfl) ?_
      have f20 : h15 o = some (.inr (7, [.int (S17 16 0), .int (S17 16 1), .ref (ad 0), .ref (ad 1), .ref (ad 2), .ref (ad 3), .ref (ad 4), .int (S17 16 2), .int (S17 16 3), .int (S17 16 4), .int (S17 16 5), .ref (ad 5), .ref (ad 6), .ref (ad 7), .ref (ad 8), .ref (ad 9), .ref (ad 10), .ref (ad 11), .ref (ad 12), .ref (ad 13), .ref (ad 14), .ref (ad 15)])) := hR.1
      refine pw_get F I_M hK.1 hP f20 rfl 13 (by decide) L_M_36 (fun _ z => z) rfl d_M_stepOnce_135 ?_
      refine lv_iload_n F.1 F.2.1 d_M_stepOnce_138 rfl (lv_at hl 4 rfl) ?_
      refine lv_aload_n F.1 F.2.1 d_M_stepOnce_139 rfl (lv_at hl 3 rfl) ?_
      refine pw_get F I_M hK.1 hP f20 rfl 13 (by decide) L_M_36 (fun _ z => z) rfl d_M_stepOnce_140 ?_
      refine lv_iload_n F.1 F.2.1 d_M_stepOnce_143 rfl (lv_at hl 4 rfl) ?_
      have f21 : h15 (ad 7) = some (.inl (cs 0, 4, .inl (S17 7))) := hR.2.1 7 (by decide)
      refine pw_ialdN F hK.1 hP 0 f21 rfl (k := t) (by omega) (by decide) d_M_stepOnce_144 ?_
      refine W.eq (g2 := F0 m 145 ls [.int (S 7 t), .int (nI t), .ref (ad 7)]) (by rw [show S17 7 t = S5 7 t from by rw [t18]; exact sp_k (by decide), show S5 7 t = S 7 t from by rw [t6]; exact sp_k (by decide)]) ?_
      refine lv_iload F.1 F.2.1 d_M_stepOnce_145 (lv_at hl 0 rfl) ?_
      refine lv_iadd F.1 F.2.1 d_M_stepOnce_147 ?_
      refine pw_iastN F hK.1 hP hS 0 f21 rfl (k := t) (by omega) (by decide) d_M_stepOnce_148 (fun H locs hP hS => ?_)
      have hP : pw D vwCl A (pu h15 (ad 7) (.inl (cs 0, 4, .inl (upd (S17 7) t ((S 7 t) + (S 4 (12 * r + a))))))) H := hP
      have hR := hR.arr (show 7 < 16 by decide) t ((S 7 t) + (S 4 (12 * r + a)))
      obtain ⟨h22, e23⟩ : ∃ z9 : pw_H, z9 = pu h15 (ad 7) (.inl (cs 0, 4, .inl (upd (S17 7) t ((S 7 t) + (S 4 (12 * r + a)))))) := ⟨_, rfl⟩
      rw [← e23] at hP
      obtain ⟨S24, t25⟩ : ∃ z9 : St, z9 = sp S17 7 t ((S 7 t) + (S 4 (12 * r + a))) := ⟨_, rfl⟩
      have hR : RM cs h22 o ad S24 := by rw [e23, t25]; exact hR
      refine lv_iload_n F.1 F.2.1 d_M_stepOnce_149 rfl (lv_at hl 1 rfl) ?_
      refine lv_iconst (v := 1) F.1 F.2.1 d_M_stepOnce_150 (by decide) ?_
      refine lv_icmp_eq (tgt := 170) F.1 F.2.1 d_M_stepOnce_151 (by decide) (fun c26 => absurd c26 (by decide)) (fun c26 => ?_)
      refine lv_iload_n F.1 F.2.1 d_M_stepOnce_154 rfl (lv_at hl 1 rfl) ?_
      refine lv_iconst (v := 5) F.1 F.2.1 d_M_stepOnce_155 (by decide) ?_
      refine lv_icmp_ne (tgt := 177) F.1 F.2.1 d_M_stepOnce_156 (by decide) (fun c27 => ?_) (fun c27 => absurd c27 (by decide))
      refine lv_iload_n F.1 F.2.1 d_M_stepOnce_177 rfl (lv_at hl 1 rfl) ?_
      refine lv_iconst (v := 3) F.1 F.2.1 d_M_stepOnce_178 (by decide) ?_
      refine lv_icmp_ne (tgt := 210) F.1 F.2.1 d_M_stepOnce_179 (by decide) (fun c28 => ?_) (fun c28 => absurd c28 (by decide))
      refine lv_iload_n F.1 F.2.1 d_M_stepOnce_210 rfl (lv_at hl 1 rfl) ?_
      refine lv_iconst (v := 4) F.1 F.2.1 d_M_stepOnce_211 (by decide) ?_
      refine lv_icmp_ne (tgt := 237) F.1 F.2.1 d_M_stepOnce_212 (by decide) (fun c29 => ?_) (fun c29 => absurd c29 (by decide))
      exact pw_vret F hr hlk hP hA hK hS (by decide) (by decide) d_M_stepOnce_237 (by rw [mOnce_op hd h6 hrw hr48 ha (by omega) (fun z9 => c12 (z9.trans hz)), hk9, mDo_0, sp_k (by decide), sp_k (by decide)]; rw [t25, t18, t6] at hR; exact hR)
    · skip
      obtain ⟨j, hj, hje⟩ := hn9 (Or.inl hk9)
      replace hl : lv_has ls 5 [(4, .int (nI j)), (3, .int 1), (2, .int (nI (6 * t + d))), (0, .ref o), (1, .int (nI t))] := by rw [hk9, hje] at hl; exact hl
      refine lv_iload_n F.1 F.2.1 d_M_stepOnce_130 rfl (lv_at hl 1 rfl) ?_
      refine lv_if_ne (tgt := 149) F.1 F.2.1 d_M_stepOnce_131 (by decide) (fun c30 => ?_) (fun c30 => absurd c30 (by decide))
      refine lv_iload_n F.1 F.2.1 d_M_stepOnce_149 rfl (lv_at hl 1 rfl) ?_
      refine lv_iconst (v := 1) F.1 F.2.1 d_M_stepOnce_150 (by decide) ?_
      refine lv_icmp_eq (tgt := 170) F.1 F.2.1 d_M_stepOnce_151 (by decide) (fun c31 => ?_) (fun c31 => absurd (by decide) c31)
      refine lv_aload_n F.1 F.2.1 d_M_stepOnce_170 rfl (lv_at hl 3 rfl) ?_
      refine lv_iload_n F.1 F.2.1 d_M_stepOnce_171 rfl (lv_at hl 4 rfl) ?_
      refine lv_iload F.1 F.2.1 d_M_stepOnce_172 (lv_at hl 0 rfl) ?_
      have f32 : h15 o = some (.inr (7, [.int (S17 16 0), .int (S17 16 1), .ref (ad 0), .ref (ad 1), .ref (ad 2), .ref (ad 3), .ref (ad 4), .int (S17 16 2), .int (S17 16 3), .int (S17 16 4), .int (S17 16 5), .ref (ad 5), .ref (ad 6), .ref (ad 7), .ref (ad 8), .ref (ad 9), .ref (ad 10), .ref (ad 11), .ref (ad 12), .ref (ad 13), .ref (ad 14), .ref (ad 15)])) := hR.1
      refine pw_cv (pr_V F (c_M_enter l D cs A h15 o ad S17 hR t j (d + 1) L ht hj (by omega) hL5 (by rw [t18, sp_k (by decide), t6, sp_k (by decide)]; exact hd) (by rw [t18, sp_k (by decide), t6, sp_k (by decide)]; exact hL)) X_M_97 rfl rfl ⟨by decide, by decide⟩ hP hA hK hS f32 rfl rfl rfl hl.1 rfl (Nat.le_of_ble_eq_true rfl) d_M_stepOnce_174 ⟨by decide, by decide⟩) hS (fun h33 H locs hq hP hS => ?_)
      obtain ⟨S34, t35⟩ : ∃ z9 : St, z9 = mEnter S17 t j := ⟨_, rfl⟩
      have hR : RM cs h33 o ad S34 := by rw [t35]; exact hq
      refine lv_iload_n F.1 F.2.1 d_M_stepOnce_177 rfl (lv_at hl 1 rfl) ?_
      refine lv_iconst (v := 3) F.1 F.2.1 d_M_stepOnce_178 (by decide) ?_
      refine lv_icmp_ne (tgt := 210) F.1 F.2.1 d_M_stepOnce_179 (by decide) (fun c36 => ?_) (fun c36 => absurd c36 (by decide))
      refine lv_iload_n F.1 F.2.1 d_M_stepOnce_210 rfl (lv_at hl 1 rfl) ?_
      refine lv_iconst (v := 4) F.1 F.2.1 d_M_stepOnce_211 (by decide) ?_
      refine lv_icmp_ne (tgt := 237) F.1 F.2.1 d_M_stepOnce_212 (by decide) (fun c37 => ?_) (fun c37 => absurd c37 (by decide))
      exact pw_vret F hr hlk hP hA hK hS (by decide) (by decide) d_M_stepOnce_237 (by rw [mOnce_op hd h6 hrw hr48 ha (by omega) (fun z9 => c12 (z9.trans hz)), hk9, mDo_1, hje, tn_nI (by omega)]; rw [t35, t18, t6] at hR; exact hR)
    · skip
      replace hl : lv_has ls 5 [(4, .int (S 4 (12 * r + a))), (3, .int 2), (2, .int (nI (6 * t + d))), (0, .ref o), (1, .int (nI t))] := by rw [hk9] at hl; exact hl
      refine lv_iload_n F.1 F.2.1 d_M_stepOnce_130 rfl (lv_at hl 1 rfl) ?_
      refine lv_if_ne (tgt := 149) F.1 F.2.1 d_M_stepOnce_131 (by decide) (fun c38 => ?_) (fun c38 => absurd c38 (by decide))
      refine lv_iload_n F.1 F.2.1 d_M_stepOnce_149 rfl (lv_at hl 1 rfl) ?_
      refine lv_iconst (v := 1) F.1 F.2.1 d_M_stepOnce_150 (by decide) ?_
      refine lv_icmp_eq (tgt := 170) F.1 F.2.1 d_M_stepOnce_151 (by decide) (fun c39 => absurd c39 (by decide)) (fun c39 => ?_)
      refine lv_iload_n F.1 F.2.1 d_M_stepOnce_154 rfl (lv_at hl 1 rfl) ?_
      refine lv_iconst (v := 5) F.1 F.2.1 d_M_stepOnce_155 (by decide) ?_
      refine lv_icmp_ne (tgt := 177) F.1 F.2.1 d_M_stepOnce_156 (by decide) (fun c40 => ?_) (fun c40 => absurd c40 (by decide))
      refine lv_iload_n F.1 F.2.1 d_M_stepOnce_177 rfl (lv_at hl 1 rfl) ?_
      refine lv_iconst (v := 3) F.1 F.2.1 d_M_stepOnce_178 (by decide) ?_
      refine lv_icmp_ne (tgt := 210) F.1 F.2.1 d_M_stepOnce_179 (by decide) (fun c41 => ?_) (fun c41 => absurd c41 (by decide))
      refine lv_iload_n F.1 F.2.1 d_M_stepOnce_210 rfl (lv_at hl 1 rfl) ?_
      refine lv_iconst (v := 4) F.1 F.2.1 d_M_stepOnce_211 (by decide) ?_
      refine lv_icmp_ne (tgt := 237) F.1 F.2.1 d_M_stepOnce_212 (by decide) (fun c42 => ?_) (fun c42 => absurd c42 (by decide))
      exact pw_vret F hr hlk hP hA hK hS (by decide) (by decide) d_M_stepOnce_237 (by rw [mOnce_op hd h6 hrw hr48 ha (by omega) (fun z9 => c12 (z9.trans hz)), hk9, mDo_2]; rw [t18, t6] at hR; exact hR)
    · skip
      replace hl : lv_has ls 5 [(4, .int (S 4 (12 * r + a))), (3, .int 3), (2, .int (nI (6 * t + d))), (0, .ref o), (1, .int (nI t))] := by rw [hk9] at hl; exact hl
      refine lv_iload_n F.1 F.2.1 d_M_stepOnce_130 rfl (lv_at hl 1 rfl) ?_
      refine lv_if_ne (tgt := 149) F.1 F.2.1 d_M_stepOnce_131 (by decide) (fun c43 => ?_) (fun c43 => absurd c43 (by decide))
      refine lv_iload_n F.1 F.2.1 d_M_stepOnce_149 rfl (lv_at hl 1 rfl) ?_
      refine lv_iconst (v := 1) F.1 F.2.1 d_M_stepOnce_150 (by decide) ?_
      refine lv_icmp_eq (tgt := 170) F.1 F.2.1 d_M_stepOnce_151 (by decide) (fun c44 => absurd c44 (by decide)) (fun c44 => ?_)
      refine lv_iload_n F.1 F.2.1 d_M_stepOnce_154 rfl (lv_at hl 1 rfl) ?_
      refine lv_iconst (v := 5) F.1 F.2.1 d_M_stepOnce_155 (by decide) ?_
      refine lv_icmp_ne (tgt := 177) F.1 F.2.1 d_M_stepOnce_156 (by decide) (fun c45 => ?_) (fun c45 => absurd c45 (by decide))
      refine lv_iload_n F.1 F.2.1 d_M_stepOnce_177 rfl (lv_at hl 1 rfl) ?_
      refine lv_iconst (v := 3) F.1 F.2.1 d_M_stepOnce_178 (by decide) ?_
      refine lv_icmp_ne (tgt := 210) F.1 F.2.1 d_M_stepOnce_179 (by decide) (fun c46 => absurd (by decide) c46) (fun c46 => ?_)
      refine lv_aload_n F.1 F.2.1 d_M_stepOnce_182 rfl (lv_at hl 3 rfl) ?_
      have f47 : h15 o = some (.inr (7, [.int (S17 16 0), .int (S17 16 1), .ref (ad 0), .ref (ad 1), .ref (ad 2), .ref (ad 3), .ref (ad 4), .int (S17 16 2), .int (S17 16 3), .int (S17 16 4), .int (S17 16 5), .ref (ad 5), .ref (ad 6), .ref (ad 7), .ref (ad 8), .ref (ad 9), .ref (ad 10), .ref (ad 11), .ref (ad 12), .ref (ad 13), .ref (ad 14), .ref (ad 15)])) := hR.1
      refine pw_get F I_M hK.1 hP f47 rfl 21 (by decide) L_M_60 (fun _ z => z) rfl d_M_stepOnce_183 ?_
      refine lv_iload_n F.1 F.2.1 d_M_stepOnce_186 rfl (lv_at hl 2 rfl) ?_
      have f48 : h15 (ad 15) = some (.inl (cs 0, 24, .inl (S17 15))) := hR.2.1 15 (by decide)
      refine pw_ialdN F hK.1 hP 0 f48 rfl (k := 6 * t + d) (by omega) (by decide) d_M_stepOnce_187 ?_
      refine W.eq (g2 := F0 m 188 ls [.int (S 15 (6 * t + d))]) (by rw [show S17 15 (6 * t + d) = S5 15 (6 * t + d) from by rw [t18]; exact sp_k (by decide), show S5 15 (6 * t + d) = S 15 (6 * t + d) from by rw [t6]; exact sp_k (by decide)]) ?_
      refine lv_iconst (v := 3) F.1 F.2.1 d_M_stepOnce_188 (by decide) ?_
      refine lv_icmp_ge (tgt := 210) F.1 F.2.1 d_M_stepOnce_189 (by decide) (fun c49 => ?_) (fun c49 => ?_)
      · skip
        refine lv_iload_n F.1 F.2.1 d_M_stepOnce_210 rfl (lv_at hl 1 rfl) ?_
        refine lv_iconst (v := 4) F.1 F.2.1 d_M_stepOnce_211 (by decide) ?_
        refine lv_icmp_ne (tgt := 237) F.1 F.2.1 d_M_stepOnce_212 (by decide) (fun c50 => ?_) (fun c50 => absurd c50 (by decide))
        exact pw_vret F hr hlk hP hA hK hS (by decide) (by decide) d_M_stepOnce_237 (by rw [mOnce_op hd h6 hrw hr48 ha (by omega) (fun z9 => c12 (z9.trans hz)), hk9, mDo_3f (by rw [sp_k (by decide), sp_k (by decide)]; exact Int32.not_lt.mpr c49)]; rw [t18, t6] at hR; exact hR)
      · skip
        refine lv_aload_n F.1 F.2.1 d_M_stepOnce_192 rfl (lv_at hl 3 rfl) ?_
        refine pw_get F I_M hK.1 hP f47 rfl 21 (by decide) L_M_60 (fun _ z => z) rfl d_M_stepOnce_193 ?_
        refine lv_iload_n F.1 F.2.1 d_M_stepOnce_196 rfl (lv_at hl 2 rfl) ?_
        refine lv_dup2_11 F.1 F.2.1 d_M_stepOnce_197 rfl rfl ?_
        refine pw_ialdN F hK.1 hP 0 f48 rfl (k := 6 * t + d) (by omega) (by decide) d_M_stepOnce_198 ?_
        refine W.eq (g2 := F0 m 199 ls [.int (S 15 (6 * t + d)), .int (nI (6 * t + d)), .ref (ad 15)]) (by rw [show S17 15 (6 * t + d) = S5 15 (6 * t + d) from by rw [t18]; exact sp_k (by decide), show S5 15 (6 * t + d) = S 15 (6 * t + d) from by rw [t6]; exact sp_k (by decide)]) ?_
        refine lv_iconst (v := 1) F.1 F.2.1 d_M_stepOnce_199 (by decide) ?_
        refine lv_iadd F.1 F.2.1 d_M_stepOnce_200 ?_
        refine pw_iastN F hK.1 hP hS 0 f48 rfl (k := 6 * t + d) (by omega) (by decide) d_M_stepOnce_201 (fun H locs hP hS => ?_)
        have hP : pw D vwCl A (pu h15 (ad 15) (.inl (cs 0, 24, .inl (upd (S17 15) (6 * t + d) ((S 15 (6 * t + d)) + 1))))) H := hP
        have hR := hR.arr (show 15 < 16 by decide) (6 * t + d) ((S 15 (6 * t + d)) + 1)
        obtain ⟨h51, e52⟩ : ∃ z9 : pw_H, z9 = pu h15 (ad 15) (.inl (cs 0, 24, .inl (upd (S17 15) (6 * t + d) ((S 15 (6 * t + d)) + 1)))) := ⟨_, rfl⟩
        rw [← e52] at hP
        obtain ⟨S53, t54⟩ : ∃ z9 : St, z9 = sp S17 15 (6 * t + d) ((S 15 (6 * t + d)) + 1) := ⟨_, rfl⟩
        have hR : RM cs h51 o ad S53 := by rw [e52, t54]; exact hR
        refine lv_aload_n F.1 F.2.1 d_M_stepOnce_202 rfl (lv_at hl 3 rfl) ?_
        have f55 : h51 o = some (.inr (7, [.int (S53 16 0), .int (S53 16 1), .ref (ad 0), .ref (ad 1), .ref (ad 2), .ref (ad 3), .ref (ad 4), .int (S53 16 2), .int (S53 16 3), .int (S53 16 4), .int (S53 16 5), .ref (ad 5), .ref (ad 6), .ref (ad 7), .ref (ad 8), .ref (ad 9), .ref (ad 10), .ref (ad 11), .ref (ad 12), .ref (ad 13), .ref (ad 14), .ref (ad 15)])) := hR.1
        refine pw_get F I_M hK.1 hP f55 rfl 20 (by decide) L_M_57 (fun _ z => z) rfl d_M_stepOnce_203 ?_
        refine lv_iload_n F.1 F.2.1 d_M_stepOnce_206 rfl (lv_at hl 2 rfl) ?_
        refine lv_iload F.1 F.2.1 d_M_stepOnce_207 (lv_at hl 0 rfl) ?_
        have f56 : h51 (ad 14) = some (.inl (cs 0, 24, .inl (S53 14))) := hR.2.1 14 (by decide)
        refine pw_iastN F hK.1 hP hS 0 f56 rfl (k := 6 * t + d) (by omega) (by decide) d_M_stepOnce_209 (fun H locs hP hS => ?_)
        have hP : pw D vwCl A (pu h51 (ad 14) (.inl (cs 0, 24, .inl (upd (S53 14) (6 * t + d) (S 4 (12 * r + a)))))) H := hP
        have hR := hR.arr (show 14 < 16 by decide) (6 * t + d) (S 4 (12 * r + a))
        obtain ⟨h57, e58⟩ : ∃ z9 : pw_H, z9 = pu h51 (ad 14) (.inl (cs 0, 24, .inl (upd (S53 14) (6 * t + d) (S 4 (12 * r + a))))) := ⟨_, rfl⟩
        rw [← e58] at hP
        obtain ⟨S59, t60⟩ : ∃ z9 : St, z9 = sp S53 14 (6 * t + d) (S 4 (12 * r + a)) := ⟨_, rfl⟩
        have hR : RM cs h57 o ad S59 := by rw [e58, t60]; exact hR
        refine lv_iload_n F.1 F.2.1 d_M_stepOnce_210 rfl (lv_at hl 1 rfl) ?_
        refine lv_iconst (v := 4) F.1 F.2.1 d_M_stepOnce_211 (by decide) ?_
        refine lv_icmp_ne (tgt := 237) F.1 F.2.1 d_M_stepOnce_212 (by decide) (fun c61 => ?_) (fun c61 => absurd c61 (by decide))
        exact pw_vret F hr hlk hP hA hK hS (by decide) (by decide) d_M_stepOnce_237 (by rw [mOnce_op hd h6 hrw hr48 ha (by omega) (fun z9 => c12 (z9.trans hz)), hk9, mDo_3t (by rw [sp_k (by decide), sp_k (by decide)]; exact Int32.not_le.mp c49), sp_k (by decide), sp_k (by decide)]; rw [t60, t54, t18, t6] at hR; exact hR)
    · skip
      replace hl : lv_has ls 5 [(4, .int (S 4 (12 * r + a))), (3, .int 4), (2, .int (nI (6 * t + d))), (0, .ref o), (1, .int (nI t))] := by rw [hk9] at hl; exact hl
      refine lv_iload_n F.1 F.2.1 d_M_stepOnce_130 rfl (lv_at hl 1 rfl) ?_
      refine lv_if_ne (tgt := 149) F.1 F.2.1 d_M_stepOnce_131 (by decide) (fun c62 => ?_) (fun c62 => absurd c62 (by decide))
      refine lv_iload_n F.1 F.2.1 d_M_stepOnce_149 rfl (lv_at hl 1 rfl) ?_
      refine lv_iconst (v := 1) F.1 F.2.1 d_M_stepOnce_150 (by decide) ?_
      refine lv_icmp_eq (tgt := 170) F.1 F.2.1 d_M_stepOnce_151 (by decide) (fun c63 => absurd c63 (by decide)) (fun c63 => ?_)
      refine lv_iload_n F.1 F.2.1 d_M_stepOnce_154 rfl (lv_at hl 1 rfl) ?_
      refine lv_iconst (v := 5) F.1 F.2.1 d_M_stepOnce_155 (by decide) ?_
      refine lv_icmp_ne (tgt := 177) F.1 F.2.1 d_M_stepOnce_156 (by decide) (fun c64 => ?_) (fun c64 => absurd c64 (by decide))
      refine lv_iload_n F.1 F.2.1 d_M_stepOnce_177 rfl (lv_at hl 1 rfl) ?_
      refine lv_iconst (v := 3) F.1 F.2.1 d_M_stepOnce_178 (by decide) ?_
      refine lv_icmp_ne (tgt := 210) F.1 F.2.1 d_M_stepOnce_179 (by decide) (fun c65 => ?_) (fun c65 => absurd c65 (by decide))
      refine lv_iload_n F.1 F.2.1 d_M_stepOnce_210 rfl (lv_at hl 1 rfl) ?_
      refine lv_iconst (v := 4) F.1 F.2.1 d_M_stepOnce_211 (by decide) ?_
      refine lv_icmp_ne (tgt := 237) F.1 F.2.1 d_M_stepOnce_212 (by decide) (fun c66 => absurd (by decide) c66) (fun c66 => ?_)
      refine lv_aload_n F.1 F.2.1 d_M_stepOnce_215 rfl (lv_at hl 3 rfl) ?_
      have f67 : h15 o = some (.inr (7, [.int (S17 16 0), .int (S17 16 1), .ref (ad 0), .ref (ad 1), .ref (ad 2), .ref (ad 3), .ref (ad 4), .int (S17 16 2), .int (S17 16 3), .int (S17 16 4), .int (S17 16 5), .ref (ad 5), .ref (ad 6), .ref (ad 7), .ref (ad 8), .ref (ad 9), .ref (ad 10), .ref (ad 11), .ref (ad 12), .ref (ad 13), .ref (ad 14), .ref (ad 15)])) := hR.1
      refine pw_get F I_M hK.1 hP f67 rfl 15 (by decide) L_M_42 (fun _ z => z) rfl d_M_stepOnce_216 ?_
      refine lv_iload_n F.1 F.2.1 d_M_stepOnce_219 rfl (lv_at hl 4 rfl) ?_
      refine lv_dup2_11 F.1 F.2.1 d_M_stepOnce_220 rfl rfl ?_
      have f68 : h15 (ad 9) = some (.inl (cs 0, 4, .inl (S17 9))) := hR.2.1 9 (by decide)
      refine pw_ialdN F hK.1 hP 0 f68 rfl (k := t) (by omega) (by decide) d_M_stepOnce_221 ?_
      refine W.eq (g2 := F0 m 222 ls [.int (S 9 t), .int (nI t), .ref (ad 9)]) (by rw [show S17 9 t = S5 9 t from by rw [t18]; exact sp_k (by decide), show S5 9 t = S 9 t from by rw [t6]; exact sp_k (by decide)]) ?_
      refine lv_iconst (v := 1) F.1 F.2.1 d_M_stepOnce_222 (by decide) ?_
      refine lv_iadd F.1 F.2.1 d_M_stepOnce_223 ?_
      refine pw_iastN F hK.1 hP hS 0 f68 rfl (k := t) (by omega) (by decide) d_M_stepOnce_224 (fun H locs hP hS => ?_)
      have hP : pw D vwCl A (pu h15 (ad 9) (.inl (cs 0, 4, .inl (upd (S17 9) t ((S 9 t) + 1))))) H := hP
      have hR := hR.arr (show 9 < 16 by decide) t ((S 9 t) + 1)
      obtain ⟨h69, e70⟩ : ∃ z9 : pw_H, z9 = pu h15 (ad 9) (.inl (cs 0, 4, .inl (upd (S17 9) t ((S 9 t) + 1)))) := ⟨_, rfl⟩
      rw [← e70] at hP
      obtain ⟨S71, t72⟩ : ∃ z9 : St, z9 = sp S17 9 t ((S 9 t) + 1) := ⟨_, rfl⟩
      have hR : RM cs h69 o ad S71 := by rw [e70, t72]; exact hR
      refine lv_aload_n F.1 F.2.1 d_M_stepOnce_225 rfl (lv_at hl 3 rfl) ?_
      have f73 : h69 o = some (.inr (7, [.int (S71 16 0), .int (S71 16 1), .ref (ad 0), .ref (ad 1), .ref (ad 2), .ref (ad 3), .ref (ad 4), .int (S71 16 2), .int (S71 16 3), .int (S71 16 4), .int (S71 16 5), .ref (ad 5), .ref (ad 6), .ref (ad 7), .ref (ad 8), .ref (ad 9), .ref (ad 10), .ref (ad 11), .ref (ad 12), .ref (ad 13), .ref (ad 14), .ref (ad 15)])) := hR.1
      refine pw_get F I_M hK.1 hP f73 rfl 16 (by decide) L_M_45 (fun _ z => z) rfl d_M_stepOnce_226 ?_
      refine lv_iload_n F.1 F.2.1 d_M_stepOnce_229 rfl (lv_at hl 4 rfl) ?_
      refine lv_aload_n F.1 F.2.1 d_M_stepOnce_230 rfl (lv_at hl 3 rfl) ?_
      refine pw_get F I_M hK.1 hP f73 rfl 13 (by decide) L_M_36 (fun _ z => z) rfl d_M_stepOnce_231 ?_
      refine lv_iload_n F.1 F.2.1 d_M_stepOnce_234 rfl (lv_at hl 4 rfl) ?_
      have f74 : h69 (ad 7) = some (.inl (cs 0, 4, .inl (S71 7))) := hR.2.1 7 (by decide)
      refine pw_ialdN F hK.1 hP 0 f74 rfl (k := t) (by omega) (by decide) d_M_stepOnce_235 ?_
      refine W.eq (g2 := F0 m 236 ls [.int (S 7 t), .int (nI t), .ref (ad 10)]) (by rw [show S71 7 t = S17 7 t from by rw [t72]; exact sp_k (by decide), show S17 7 t = S5 7 t from by rw [t18]; exact sp_k (by decide), show S5 7 t = S 7 t from by rw [t6]; exact sp_k (by decide)]) ?_
      have f75 : h69 (ad 10) = some (.inl (cs 0, 4, .inl (S71 10))) := hR.2.1 10 (by decide)
      refine pw_iastN F hK.1 hP hS 0 f75 rfl (k := t) (by omega) (by decide) d_M_stepOnce_236 (fun H locs hP hS => ?_)
      have hP : pw D vwCl A (pu h69 (ad 10) (.inl (cs 0, 4, .inl (upd (S71 10) t (S 7 t))))) H := hP
      have hR := hR.arr (show 10 < 16 by decide) t (S 7 t)
      obtain ⟨h76, e77⟩ : ∃ z9 : pw_H, z9 = pu h69 (ad 10) (.inl (cs 0, 4, .inl (upd (S71 10) t (S 7 t)))) := ⟨_, rfl⟩
      rw [← e77] at hP
      obtain ⟨S78, t79⟩ : ∃ z9 : St, z9 = sp S71 10 t (S 7 t) := ⟨_, rfl⟩
      have hR : RM cs h76 o ad S78 := by rw [e77, t79]; exact hR
      exact pw_vret F hr hlk hP hA hK hS (by decide) (by decide) d_M_stepOnce_237 (by rw [mOnce_op hd h6 hrw hr48 ha (by omega) (fun z9 => c12 (z9.trans hz)), hk9, mDo_4, sp_k (by decide), sp_k (by decide), sp_k (by decide), sp_k (by decide)]; rw [t79, t72, t18, t6] at hR; exact hR)
    · skip
      obtain ⟨j, hj, hje⟩ := hn9 (Or.inr hk9)
      replace hl : lv_has ls 5 [(4, .int (nI j)), (3, .int 5), (2, .int (nI (6 * t + d))), (0, .ref o), (1, .int (nI t))] := by rw [hk9, hje] at hl; exact hl
      refine lv_iload_n F.1 F.2.1 d_M_stepOnce_130 rfl (lv_at hl 1 rfl) ?_
      refine lv_if_ne (tgt := 149) F.1 F.2.1 d_M_stepOnce_131 (by decide) (fun c80 => ?_) (fun c80 => absurd c80 (by decide))
      refine lv_iload_n F.1 F.2.1 d_M_stepOnce_149 rfl (lv_at hl 1 rfl) ?_
      refine lv_iconst (v := 1) F.1 F.2.1 d_M_stepOnce_150 (by decide) ?_
      refine lv_icmp_eq (tgt := 170) F.1 F.2.1 d_M_stepOnce_151 (by decide) (fun c81 => absurd c81 (by decide)) (fun c81 => ?_)
      refine lv_iload_n F.1 F.2.1 d_M_stepOnce_154 rfl (lv_at hl 1 rfl) ?_
      refine lv_iconst (v := 5) F.1 F.2.1 d_M_stepOnce_155 (by decide) ?_
      refine lv_icmp_ne (tgt := 177) F.1 F.2.1 d_M_stepOnce_156 (by decide) (fun c82 => absurd (by decide) c82) (fun c82 => ?_)
      refine lv_aload_n F.1 F.2.1 d_M_stepOnce_159 rfl (lv_at hl 3 rfl) ?_
      have f83 : h15 o = some (.inr (7, [.int (S17 16 0), .int (S17 16 1), .ref (ad 0), .ref (ad 1), .ref (ad 2), .ref (ad 3), .ref (ad 4), .int (S17 16 2), .int (S17 16 3), .int (S17 16 4), .int (S17 16 5), .ref (ad 5), .ref (ad 6), .ref (ad 7), .ref (ad 8), .ref (ad 9), .ref (ad 10), .ref (ad 11), .ref (ad 12), .ref (ad 13), .ref (ad 14), .ref (ad 15)])) := hR.1
      refine pw_get F I_M hK.1 hP f83 rfl 13 (by decide) L_M_36 (fun _ z => z) rfl d_M_stepOnce_160 ?_
      refine lv_iload_n F.1 F.2.1 d_M_stepOnce_163 rfl (lv_at hl 4 rfl) ?_
      have f84 : h15 (ad 7) = some (.inl (cs 0, 4, .inl (S17 7))) := hR.2.1 7 (by decide)
      refine pw_ialdN F hK.1 hP 0 f84 rfl (k := t) (by omega) (by decide) d_M_stepOnce_164 ?_
      refine W.eq (g2 := F0 m 165 ls [.int (S 7 t)]) (by rw [show S17 7 t = S5 7 t from by rw [t18]; exact sp_k (by decide), show S5 7 t = S 7 t from by rw [t6]; exact sp_k (by decide)]) ?_
      refine lv_iconst (v := 2) F.1 F.2.1 d_M_stepOnce_165 (by decide) ?_
      refine lv_irem F.1 F.2.1 d_M_stepOnce_166 (by decide) ?_
      refine lv_if_ne (tgt := 177) F.1 F.2.1 d_M_stepOnce_167 (by decide) (fun c85 => ?_) (fun c85 => ?_)
      · skip
        refine lv_iload_n F.1 F.2.1 d_M_stepOnce_177 rfl (lv_at hl 1 rfl) ?_
        refine lv_iconst (v := 3) F.1 F.2.1 d_M_stepOnce_178 (by decide) ?_
        refine lv_icmp_ne (tgt := 210) F.1 F.2.1 d_M_stepOnce_179 (by decide) (fun c86 => ?_) (fun c86 => absurd c86 (by decide))
        refine lv_iload_n F.1 F.2.1 d_M_stepOnce_210 rfl (lv_at hl 1 rfl) ?_
        refine lv_iconst (v := 4) F.1 F.2.1 d_M_stepOnce_211 (by decide) ?_
        refine lv_icmp_ne (tgt := 237) F.1 F.2.1 d_M_stepOnce_212 (by decide) (fun c87 => ?_) (fun c87 => absurd c87 (by decide))
        exact pw_vret F hr hlk hP hA hK hS (by decide) (by decide) d_M_stepOnce_237 (by rw [mOnce_op hd h6 hrw hr48 ha (by omega) (fun z9 => c12 (z9.trans hz)), hk9, mDo_5f (by rw [sp_k (by decide), sp_k (by decide)]; exact c85)]; rw [t18, t6] at hR; exact hR)
      · skip
        refine lv_aload_n F.1 F.2.1 d_M_stepOnce_170 rfl (lv_at hl 3 rfl) ?_
        refine lv_iload_n F.1 F.2.1 d_M_stepOnce_171 rfl (lv_at hl 4 rfl) ?_
        refine lv_iload F.1 F.2.1 d_M_stepOnce_172 (lv_at hl 0 rfl) ?_
        refine pw_cv (pr_V F (c_M_enter l D cs A h15 o ad S17 hR t j (d + 1) L ht hj (by omega) hL5 (by rw [t18, sp_k (by decide), t6, sp_k (by decide)]; exact hd) (by rw [t18, sp_k (by decide), t6, sp_k (by decide)]; exact hL)) X_M_97 rfl rfl ⟨by decide, by decide⟩ hP hA hK hS f83 rfl rfl rfl hl.1 rfl (Nat.le_of_ble_eq_true rfl) d_M_stepOnce_174 ⟨by decide, by decide⟩) hS (fun h88 H locs hq hP hS => ?_)
        obtain ⟨S89, t90⟩ : ∃ z9 : St, z9 = mEnter S17 t j := ⟨_, rfl⟩
        have hR : RM cs h88 o ad S89 := by rw [t90]; exact hq
        refine lv_iload_n F.1 F.2.1 d_M_stepOnce_177 rfl (lv_at hl 1 rfl) ?_
        refine lv_iconst (v := 3) F.1 F.2.1 d_M_stepOnce_178 (by decide) ?_
        refine lv_icmp_ne (tgt := 210) F.1 F.2.1 d_M_stepOnce_179 (by decide) (fun c91 => ?_) (fun c91 => absurd c91 (by decide))
        refine lv_iload_n F.1 F.2.1 d_M_stepOnce_210 rfl (lv_at hl 1 rfl) ?_
        refine lv_iconst (v := 4) F.1 F.2.1 d_M_stepOnce_211 (by decide) ?_
        refine lv_icmp_ne (tgt := 237) F.1 F.2.1 d_M_stepOnce_212 (by decide) (fun c92 => ?_) (fun c92 => absurd c92 (by decide))
        exact pw_vret F hr hlk hP hA hK hS (by decide) (by decide) d_M_stepOnce_237 (by rw [mOnce_op hd h6 hrw hr48 ha (by omega) (fun z9 => c12 (z9.trans hz)), hk9, mDo_5t (by rw [sp_k (by decide), sp_k (by decide)]; exact c85), hje, tn_nI (by omega)]; rw [t90, t18, t6] at hR; exact hR)
  · skip
    refine lv_aload_n F.1 F.2.1 d_M_stepOnce_44 rfl (lv_at hl 1 rfl) ?_
    refine pw_get F I_M hK.1 hP f7 rfl 17 (by decide) L_M_48 (fun _ z => z) rfl d_M_stepOnce_45 ?_
    refine lv_iload_n F.1 F.2.1 d_M_stepOnce_48 rfl (lv_at hl 2 rfl) ?_
    refine lv_dup2_11 F.1 F.2.1 d_M_stepOnce_49 rfl rfl ?_
    refine pw_ialdN F hK.1 hP 0 f8 rfl (k := t) (by omega) (by decide) d_M_stepOnce_50 ?_
    refine W.eq (g2 := F0 m 51 ls [.int (nI (d + 1)), .int (nI t), .ref (ad 11)]) (by rw [show S5 11 t = S 11 t from by rw [t6]; exact sp_k (by decide), hd]) ?_
    refine lv_iconst (v := 1) F.1 F.2.1 d_M_stepOnce_51 (by decide) ?_
    refine lv_isub F.1 F.2.1 d_M_stepOnce_52 ?_
    refine W.eq (g2 := F0 m 53 ls [.int (nI (d)), .int (nI t), .ref (ad 11)]) (by rw [show (1 : Int32) = nI 1 from rfl, show nI (d + 1) - nI 1 = nI d from nI_pred d]) ?_
    refine pw_iastN F hK.1 hP hS 0 f8 rfl (k := t) (by omega) (by decide) d_M_stepOnce_53 (fun H locs hP hS => ?_)
    have hP : pw D vwCl A (pu h3 (ad 11) (.inl (cs 0, 4, .inl (upd (S5 11) t (nI (d)))))) H := hP
    have hR := hR.arr (show 11 < 16 by decide) t (nI (d))
    obtain ⟨h93, e94⟩ : ∃ z9 : pw_H, z9 = pu h3 (ad 11) (.inl (cs 0, 4, .inl (upd (S5 11) t (nI (d))))) := ⟨_, rfl⟩
    rw [← e94] at hP
    obtain ⟨S95, t96⟩ : ∃ z9 : St, z9 = sp S5 11 t (nI (d)) := ⟨_, rfl⟩
    have hR : RM cs h93 o ad S95 := by rw [e94, t96]; exact hR
    refine lv_aload_n F.1 F.2.1 d_M_stepOnce_54 rfl (lv_at hl 1 rfl) ?_
    have f97 : h93 o = some (.inr (7, [.int (S95 16 0), .int (S95 16 1), .ref (ad 0), .ref (ad 1), .ref (ad 2), .ref (ad 3), .ref (ad 4), .int (S95 16 2), .int (S95 16 3), .int (S95 16 4), .int (S95 16 5), .ref (ad 5), .ref (ad 6), .ref (ad 7), .ref (ad 8), .ref (ad 9), .ref (ad 10), .ref (ad 11), .ref (ad 12), .ref (ad 13), .ref (ad 14), .ref (ad 15)])) := hR.1
    refine pw_get F I_M hK.1 hP f97 rfl 17 (by decide) L_M_48 (fun _ z => z) rfl d_M_stepOnce_55 ?_
    refine lv_iload_n F.1 F.2.1 d_M_stepOnce_58 rfl (lv_at hl 2 rfl) ?_
    have f98 : h93 (ad 11) = some (.inl (cs 0, 4, .inl (S95 11))) := hR.2.1 11 (by decide)
    refine pw_ialdN F hK.1 hP 0 f98 rfl (k := t) (by omega) (by decide) d_M_stepOnce_59 ?_
    refine W.eq (g2 := F0 m 60 ls [.int (nI (d))]) (by rw [show S95 11 t = nI (d) from by rw [t96]; exact sp_s]) ?_
    refine lv_if_ne (tgt := 74) F.1 F.2.1 d_M_stepOnce_60 (by decide) (fun c99 => ?_) (fun c99 => ?_)
    · skip
      exact pw_vret F hr hlk hP hA hK hS (by decide) (by decide) d_M_stepOnce_74 (by rw [mOnce_ret hd h6 hrw hr48 ha (c12.trans hz.symm) hm hmf]; rw [if_neg c99]; rw [t96, t6] at hR; exact hR)
    · skip
      refine lv_aload_n F.1 F.2.1 d_M_stepOnce_63 rfl (lv_at hl 1 rfl) ?_
      refine lv_iload_n F.1 F.2.1 d_M_stepOnce_64 rfl (lv_at hl 2 rfl) ?_
      refine lv_aload_n F.1 F.2.1 d_M_stepOnce_65 rfl (lv_at hl 1 rfl) ?_
      refine pw_get F I_M hK.1 hP f97 rfl 11 (by decide) L_M_30 (fun _ z => z) rfl d_M_stepOnce_66 ?_
      refine lv_iload_n F.1 F.2.1 d_M_stepOnce_69 rfl (lv_at hl 2 rfl) ?_
      have f100 : h93 (ad 5) = some (.inl (cs 0, 4, .inl (S95 5))) := hR.2.1 5 (by decide)
      refine pw_ialdN F hK.1 hP 0 f100 rfl (k := t) (by omega) (by decide) d_M_stepOnce_70 ?_
      refine W.eq (g2 := F0 m 71 ls [.int (nI mf), .int (nI t), .ref o]) (by rw [show S95 5 t = S5 5 t from by rw [t96]; exact sp_k (by decide), show S5 5 t = S 5 t from by rw [t6]; exact sp_k (by decide), hm]) ?_
      refine pw_cv (pr_V F (c_M_enter l D cs A h93 o ad S95 hR t mf d L ht hmf (by omega) hL5 (by rw [t96, sp_s]) (by rw [t96, sp_k (by decide), t6, sp_k (by decide)]; exact hL)) X_M_97 rfl rfl ⟨by decide, by decide⟩ hP hA hK hS f97 rfl rfl rfl hl.1 rfl (Nat.le_of_ble_eq_true rfl) d_M_stepOnce_71 ⟨by decide, by decide⟩) hS (fun h101 H locs hq hP hS => ?_)
      obtain ⟨S102, t103⟩ : ∃ z9 : St, z9 = mEnter S95 t mf := ⟨_, rfl⟩
      have hR : RM cs h101 o ad S102 := by rw [t103]; exact hq
      exact pw_vret F hr hlk hP hA hK hS (by decide) (by decide) d_M_stepOnce_74 (by rw [mOnce_ret hd h6 hrw hr48 ha (c12.trans hz.symm) hm hmf]; rw [if_pos c99]; rw [t103, t96, t6] at hR; exact hR)
end
section
theorem i32_or (x : Int32) : x < 0 ∨ 0 ≤ x := by
  rcases Decidable.em (x < 0) with h | h
  · exact Or.inl h
  · exact Or.inr (Int32.not_lt.mp h)
theorem nI_sp1 {n : Nat} : nI n + 1 - 1 = nI n := by rw [nI_1, nI_pred]
abbrev rm_M_function : Room := { frames := 1, cells := 0, slots := 0, locals := 22 }
set_option maxHeartbeats 4000000 in
set_option maxRecDepth 100000 in
theorem c_M_function (l : Launch) (D : va_G) (cs : Nat → Nat) (A : Nat → Prop) (h : pw_H) (o : Nat) (ad : Nat → Nat) (S : St) (hR : RM cs h o ad S) (nf : Nat) (hnf8 : nf ≤ 8) (hnf : S 16 1 = nI nf) (sg : Int32) : pm l y_M_function b_M_function 2 (some .int) rm_M_function [.ref o, .int sg] D cs A h (va_Qi (fun (r : Int32) (h' : pw_H) => RM cs h' o ad (stFunction S sg) ∧ r = rFunction S sg) (ww D cs A) A) 0 0 := by
  refine pm_of R_M rfl (by decide) (Nat.le_of_ble_eq_true rfl) (fun p e s m below meth c ls F hr hlk hnm hP hA hK hl => ?_)
  have hS : va_S A s.heap s.heap [] := va_S.rf
  replace hl : lv_has ls 2 [(0, .ref o), (1, .int sg)] := hl
  refine lv_aload_n F.1 F.2.1 d_M_function_0 rfl (lv_at hl 0 rfl) ?_
  refine lv_iload_n F.1 F.2.1 d_M_function_1 rfl (lv_at hl 1 rfl) ?_
  refine lv_iconst (v := 0) F.1 F.2.1 d_M_function_2 (by decide) ?_
  refine lv_bipush (v := 9) F.1 F.2.1 d_M_function_3 (by decide) ?_
  refine pw_ciE (pr_S F (c_M_inn l D cs A h sg 0 9) X_M_72 rfl rfl ⟨by decide, by decide⟩ hP hA hK hS rfl hl.1 rfl (Nat.le_of_ble_eq_true rfl) d_M_function_5 ⟨by decide, by decide⟩) hS (fun H locs hP hS => ?_)
  by_cases b1 : 0 ≤ sg ∧ sg ≤ 9
  · skip
    refine W.eq (g2 := F0 m 8 ls [.int 1, .ref o]) (by rw [if_pos b1]) ?_
    refine lv_if_ne (tgt := 15) F.1 F.2.1 d_M_function_8 (by decide) (fun c2 => ?_) (fun c2 => absurd c2 (by decide))
    refine lv_aload_n F.1 F.2.1 d_M_function_15 rfl (lv_at hl 0 rfl) ?_
    have f3 : h o = some (.inr (7, [.int (S 16 0), .int (S 16 1), .ref (ad 0), .ref (ad 1), .ref (ad 2), .ref (ad 3), .ref (ad 4), .int (S 16 2), .int (S 16 3), .int (S 16 4), .int (S 16 5), .ref (ad 5), .ref (ad 6), .ref (ad 7), .ref (ad 8), .ref (ad 9), .ref (ad 10), .ref (ad 11), .ref (ad 12), .ref (ad 13), .ref (ad 14), .ref (ad 15)])) := hR.1
    refine pw_get F I_M hK.1 hP f3 rfl 1 (by decide) L_M_76 (fun _ z => z) rfl d_M_function_16 ?_
    refine W.eq (g2 := F0 m 19 ls [.int (nI nf), .ref o]) (by rw [hnf]) ?_
    refine lv_bipush (v := 8) F.1 F.2.1 d_M_function_19 (by decide) ?_
    refine lv_icmp_eq (tgt := 31) F.1 F.2.1 d_M_function_21 (by decide) (fun c4 => ?_) (fun c4 => ?_)
    · skip
      refine lv_iconst (v := 2) F.1 F.2.1 d_M_function_31 (by decide) ?_
      refine lv_goto (tgt := 36) F.1 F.2.1 d_M_function_32 (by decide) ?_
      refine pw_put F I_M ty_M k_M n_M hK.1 hP hS f3 rfl 0 (by decide) L_M_63 (fun _ z => z) rfl rfl rfl (Nat.le_of_ble_eq_true rfl) d_M_function_36 (fun H locs hP hS => ?_)
      have hP : pw D vwCl A (pu h o (.inr (7, (mfs ad S).set (mpos 0) (.int 2)))) H := hP
      have hR := hR.num (show 0 < 6 by decide) 2
      obtain ⟨h5, e6⟩ : ∃ z9 : pw_H, z9 = pu h o (.inr (7, (mfs ad S).set (mpos 0) (.int 2))) := ⟨_, rfl⟩
      rw [← e6] at hP
      obtain ⟨S7, t8⟩ : ∃ z9 : St, z9 = sp S 16 0 2 := ⟨_, rfl⟩
      have hR : RM cs h5 o ad S7 := by rw [e6, t8]; exact hR
      refine lv_aload_n F.1 F.2.1 d_M_function_39 rfl (lv_at hl 0 rfl) ?_
      have f9 : h5 o = some (.inr (7, [.int (S7 16 0), .int (S7 16 1), .ref (ad 0), .ref (ad 1), .ref (ad 2), .ref (ad 3), .ref (ad 4), .int (S7 16 2), .int (S7 16 3), .int (S7 16 4), .int (S7 16 5), .ref (ad 5), .ref (ad 6), .ref (ad 7), .ref (ad 8), .ref (ad 9), .ref (ad 10), .ref (ad 11), .ref (ad 12), .ref (ad 13), .ref (ad 14), .ref (ad 15)])) := hR.1
      refine pw_get F I_M hK.1 hP f9 rfl 0 (by decide) L_M_63 (fun _ z => z) rfl d_M_function_40 ?_
      refine W.eq (g2 := F0 m 43 ls [.int 2]) (by rw [show S7 16 0 = 2 from by rw [t8]; exact sp_s]) ?_
      refine lv_if_le (tgt := 48) F.1 F.2.1 d_M_function_43 (by decide) (fun c10 => absurd c10 (by decide)) (fun c10 => ?_)
      refine lv_iconst (v := 0) F.1 F.2.1 d_M_function_46 (by decide) ?_
      exact pw_iret F hr hlk hP hA hK hS (by decide) (by decide) d_M_function_47 (by have hth : thFunction S sg = 2 := (by unfold thFunction; rw [if_neg (fun z9 => z9 b1), if_pos (Or.inl (hnf.trans c4))]); unfold stFunction rFunction; rw [hth, if_neg (by decide), if_neg (by decide)]; rw [t8] at hR; exact ⟨hR, rfl⟩)
    · skip
      refine lv_aload_n F.1 F.2.1 d_M_function_24 rfl (lv_at hl 0 rfl) ?_
      refine pw_ciE (pr_V F (c_M_fresh l D cs A h o ad S hR) X_M_79 rfl rfl ⟨by decide, by decide⟩ hP hA hK hS f3 rfl rfl rfl hl.1 rfl (Nat.le_of_ble_eq_true rfl) d_M_function_25 ⟨by decide, by decide⟩) hS (fun H locs hP hS => ?_)
      by_cases b11 : mFresh S
      · skip
        refine W.eq (g2 := F0 m 28 ls [.int 1, .ref o]) (by rw [if_pos b11]) ?_
        refine lv_if_ne (tgt := 35) F.1 F.2.1 d_M_function_28 (by decide) (fun c12 => ?_) (fun c12 => absurd c12 (by decide))
        refine lv_iconst (v := 0) F.1 F.2.1 d_M_function_35 (by decide) ?_
        refine pw_put F I_M ty_M k_M n_M hK.1 hP hS f3 rfl 0 (by decide) L_M_63 (fun _ z => z) rfl rfl rfl (Nat.le_of_ble_eq_true rfl) d_M_function_36 (fun H locs hP hS => ?_)
        have hP : pw D vwCl A (pu h o (.inr (7, (mfs ad S).set (mpos 0) (.int 0)))) H := hP
        have hR := hR.num (show 0 < 6 by decide) 0
        obtain ⟨h13, e14⟩ : ∃ z9 : pw_H, z9 = pu h o (.inr (7, (mfs ad S).set (mpos 0) (.int 0))) := ⟨_, rfl⟩
        rw [← e14] at hP
        obtain ⟨S15, t16⟩ : ∃ z9 : St, z9 = sp S 16 0 0 := ⟨_, rfl⟩
        have hR : RM cs h13 o ad S15 := by rw [e14, t16]; exact hR
        refine lv_aload_n F.1 F.2.1 d_M_function_39 rfl (lv_at hl 0 rfl) ?_
        have f17 : h13 o = some (.inr (7, [.int (S15 16 0), .int (S15 16 1), .ref (ad 0), .ref (ad 1), .ref (ad 2), .ref (ad 3), .ref (ad 4), .int (S15 16 2), .int (S15 16 3), .int (S15 16 4), .int (S15 16 5), .ref (ad 5), .ref (ad 6), .ref (ad 7), .ref (ad 8), .ref (ad 9), .ref (ad 10), .ref (ad 11), .ref (ad 12), .ref (ad 13), .ref (ad 14), .ref (ad 15)])) := hR.1
        refine pw_get F I_M hK.1 hP f17 rfl 0 (by decide) L_M_63 (fun _ z => z) rfl d_M_function_40 ?_
        refine W.eq (g2 := F0 m 43 ls [.int 0]) (by rw [show S15 16 0 = 0 from by rw [t16]; exact sp_s]) ?_
        refine lv_if_le (tgt := 48) F.1 F.2.1 d_M_function_43 (by decide) (fun c18 => ?_) (fun c18 => absurd (by decide) c18)
        have hlt : nf < 8 := by
          rcases Nat.lt_or_ge nf 8 with h9 | h9
          · exact h9
          · exact absurd (show nI nf = 8 by rw [show nf = 8 by omega]; rfl) c4
        refine lv_aload_n F.1 F.2.1 d_M_function_48 rfl (lv_at hl 0 rfl) ?_
        refine pw_get F I_M hK.1 hP f17 rfl 2 (by decide) L_M_7 (fun _ z => z) rfl d_M_function_49 ?_
        refine lv_aload_n F.1 F.2.1 d_M_function_52 rfl (lv_at hl 0 rfl) ?_
        refine pw_get F I_M hK.1 hP f17 rfl 1 (by decide) L_M_76 (fun _ z => z) rfl d_M_function_53 ?_
        refine W.eq (g2 := F0 m 56 ls [.int (nI nf), .ref (ad 0)]) (by rw [show S15 16 1 = S 16 1 from by rw [t16]; exact sp_j (by decide), hnf]) ?_
        refine lv_iconst (v := 1) F.1 F.2.1 d_M_function_56 (by decide) ?_
        have f19 : h13 (ad 0) = some (.inl (cs 1, 56, .inl (S15 0))) := hR.2.1 0 (by decide)
        refine pw_zastN F hK.1 hP hS 1 f19 rfl (k := nf) (by omega) (by decide) rfl d_M_function_57 (fun H locs hP hS => ?_)
        have hP : pw D vwCl A (pu h13 (ad 0) (.inl (cs 1, 56, .inl (upd (S15 0) nf 1)))) H := hP
        have hR := hR.arr (show 0 < 16 by decide) nf 1
        obtain ⟨h20, e21⟩ : ∃ z9 : pw_H, z9 = pu h13 (ad 0) (.inl (cs 1, 56, .inl (upd (S15 0) nf 1))) := ⟨_, rfl⟩
        rw [← e21] at hP
        obtain ⟨S22, t23⟩ : ∃ z9 : St, z9 = sp S15 0 nf 1 := ⟨_, rfl⟩
        have hR : RM cs h20 o ad S22 := by rw [e21, t23]; exact hR
        refine lv_aload_n F.1 F.2.1 d_M_function_58 rfl (lv_at hl 0 rfl) ?_
        have f24 : h20 o = some (.inr (7, [.int (S22 16 0), .int (S22 16 1), .ref (ad 0), .ref (ad 1), .ref (ad 2), .ref (ad 3), .ref (ad 4), .int (S22 16 2), .int (S22 16 3), .int (S22 16 4), .int (S22 16 5), .ref (ad 5), .ref (ad 6), .ref (ad 7), .ref (ad 8), .ref (ad 9), .ref (ad 10), .ref (ad 11), .ref (ad 12), .ref (ad 13), .ref (ad 14), .ref (ad 15)])) := hR.1
        refine pw_get F I_M hK.1 hP f24 rfl 3 (by decide) L_M_13 (fun _ z => z) rfl d_M_function_59 ?_
        refine lv_aload_n F.1 F.2.1 d_M_function_62 rfl (lv_at hl 0 rfl) ?_
        refine pw_get F I_M hK.1 hP f24 rfl 1 (by decide) L_M_76 (fun _ z => z) rfl d_M_function_63 ?_
        refine W.eq (g2 := F0 m 66 ls [.int (nI nf), .ref (ad 1)]) (by rw [show S22 16 1 = S15 16 1 from by rw [t23]; exact sp_k (by decide), show S15 16 1 = S 16 1 from by rw [t16]; exact sp_j (by decide), hnf]) ?_
        refine lv_iload_n F.1 F.2.1 d_M_function_66 rfl (lv_at hl 1 rfl) ?_
        have f25 : h20 (ad 1) = some (.inl (cs 0, 56, .inl (S22 1))) := hR.2.1 1 (by decide)
        refine pw_iastN F hK.1 hP hS 0 f25 rfl (k := nf) (by omega) (by decide) d_M_function_67 (fun H locs hP hS => ?_)
        have hP : pw D vwCl A (pu h20 (ad 1) (.inl (cs 0, 56, .inl (upd (S22 1) nf sg)))) H := hP
        have hR := hR.arr (show 1 < 16 by decide) nf sg
        obtain ⟨h26, e27⟩ : ∃ z9 : pw_H, z9 = pu h20 (ad 1) (.inl (cs 0, 56, .inl (upd (S22 1) nf sg))) := ⟨_, rfl⟩
        rw [← e27] at hP
        obtain ⟨S28, t29⟩ : ∃ z9 : St, z9 = sp S22 1 nf sg := ⟨_, rfl⟩
        have hR : RM cs h26 o ad S28 := by rw [e27, t29]; exact hR
        refine lv_aload_n F.1 F.2.1 d_M_function_68 rfl (lv_at hl 0 rfl) ?_
        have f30 : h26 o = some (.inr (7, [.int (S28 16 0), .int (S28 16 1), .ref (ad 0), .ref (ad 1), .ref (ad 2), .ref (ad 3), .ref (ad 4), .int (S28 16 2), .int (S28 16 3), .int (S28 16 4), .int (S28 16 5), .ref (ad 5), .ref (ad 6), .ref (ad 7), .ref (ad 8), .ref (ad 9), .ref (ad 10), .ref (ad 11), .ref (ad 12), .ref (ad 13), .ref (ad 14), .ref (ad 15)])) := hR.1
        refine pw_get F I_M hK.1 hP f30 rfl 4 (by decide) L_M_17 (fun _ z => z) rfl d_M_function_69 ?_
        refine lv_aload_n F.1 F.2.1 d_M_function_72 rfl (lv_at hl 0 rfl) ?_
        refine pw_get F I_M hK.1 hP f30 rfl 1 (by decide) L_M_76 (fun _ z => z) rfl d_M_function_73 ?_
        refine W.eq (g2 := F0 m 76 ls [.int (nI nf), .ref (ad 2)]) (by rw [show S28 16 1 = S22 16 1 from by rw [t29]; exact sp_k (by decide), show S22 16 1 = S15 16 1 from by rw [t23]; exact sp_k (by decide), show S15 16 1 = S 16 1 from by rw [t16]; exact sp_j (by decide), hnf]) ?_
        refine lv_iconst (v := 0) F.1 F.2.1 d_M_function_76 (by decide) ?_
        have f31 : h26 (ad 2) = some (.inl (cs 0, 56, .inl (S28 2))) := hR.2.1 2 (by decide)
        refine pw_iastN F hK.1 hP hS 0 f31 rfl (k := nf) (by omega) (by decide) d_M_function_77 (fun H locs hP hS => ?_)
        have hP : pw D vwCl A (pu h26 (ad 2) (.inl (cs 0, 56, .inl (upd (S28 2) nf 0)))) H := hP
        have hR := hR.arr (show 2 < 16 by decide) nf 0
        obtain ⟨h32, e33⟩ : ∃ z9 : pw_H, z9 = pu h26 (ad 2) (.inl (cs 0, 56, .inl (upd (S28 2) nf 0))) := ⟨_, rfl⟩
        rw [← e33] at hP
        obtain ⟨S34, t35⟩ : ∃ z9 : St, z9 = sp S28 2 nf 0 := ⟨_, rfl⟩
        have hR : RM cs h32 o ad S34 := by rw [e33, t35]; exact hR
        refine lv_aload_n F.1 F.2.1 d_M_function_78 rfl (lv_at hl 0 rfl) ?_
        refine lv_dup F.1 F.2.1 d_M_function_79 rfl ?_
        have f36 : h32 o = some (.inr (7, [.int (S34 16 0), .int (S34 16 1), .ref (ad 0), .ref (ad 1), .ref (ad 2), .ref (ad 3), .ref (ad 4), .int (S34 16 2), .int (S34 16 3), .int (S34 16 4), .int (S34 16 5), .ref (ad 5), .ref (ad 6), .ref (ad 7), .ref (ad 8), .ref (ad 9), .ref (ad 10), .ref (ad 11), .ref (ad 12), .ref (ad 13), .ref (ad 14), .ref (ad 15)])) := hR.1
        refine pw_get F I_M hK.1 hP f36 rfl 1 (by decide) L_M_76 (fun _ z => z) rfl d_M_function_80 ?_
        refine W.eq (g2 := F0 m 83 ls [.int (nI nf), .ref o]) (by rw [show S34 16 1 = S28 16 1 from by rw [t35]; exact sp_k (by decide), show S28 16 1 = S22 16 1 from by rw [t29]; exact sp_k (by decide), show S22 16 1 = S15 16 1 from by rw [t23]; exact sp_k (by decide), show S15 16 1 = S 16 1 from by rw [t16]; exact sp_j (by decide), hnf]) ?_
        refine lv_iconst (v := 1) F.1 F.2.1 d_M_function_83 (by decide) ?_
        refine lv_iadd F.1 F.2.1 d_M_function_84 ?_
        refine W.eq (g2 := F0 m 85 ls [.int (nI (nf + 1)), .ref o]) (by rw [show (1 : Int32) = nI 1 from rfl, nI_add]) ?_
        refine pw_put F I_M ty_M k_M n_M hK.1 hP hS f36 rfl 1 (by decide) L_M_76 (fun _ z => z) rfl rfl rfl (Nat.le_of_ble_eq_true rfl) d_M_function_85 (fun H locs hP hS => ?_)
        have hP : pw D vwCl A (pu h32 o (.inr (7, (mfs ad S34).set (mpos 1) (.int (nI (nf + 1)))))) H := hP
        have hR := hR.num (show 1 < 6 by decide) (nI (nf + 1))
        obtain ⟨h37, e38⟩ : ∃ z9 : pw_H, z9 = pu h32 o (.inr (7, (mfs ad S34).set (mpos 1) (.int (nI (nf + 1))))) := ⟨_, rfl⟩
        rw [← e38] at hP
        obtain ⟨S39, t40⟩ : ∃ z9 : St, z9 = sp S34 16 1 (nI (nf + 1)) := ⟨_, rfl⟩
        have hR : RM cs h37 o ad S39 := by rw [e38, t40]; exact hR
        refine lv_aload_n F.1 F.2.1 d_M_function_88 rfl (lv_at hl 0 rfl) ?_
        have f41 : h37 o = some (.inr (7, [.int (S39 16 0), .int (S39 16 1), .ref (ad 0), .ref (ad 1), .ref (ad 2), .ref (ad 3), .ref (ad 4), .int (S39 16 2), .int (S39 16 3), .int (S39 16 4), .int (S39 16 5), .ref (ad 5), .ref (ad 6), .ref (ad 7), .ref (ad 8), .ref (ad 9), .ref (ad 10), .ref (ad 11), .ref (ad 12), .ref (ad 13), .ref (ad 14), .ref (ad 15)])) := hR.1
        refine pw_get F I_M hK.1 hP f41 rfl 1 (by decide) L_M_76 (fun _ z => z) rfl d_M_function_89 ?_
        refine W.eq (g2 := F0 m 92 ls [.int (nI (nf + 1))]) (by rw [show S39 16 1 = nI (nf + 1) from by rw [t40]; exact sp_s]) ?_
        refine lv_iconst (v := 1) F.1 F.2.1 d_M_function_92 (by decide) ?_
        refine lv_isub F.1 F.2.1 d_M_function_93 ?_
        exact pw_iret F hr hlk hP hA hK hS (by decide) (by decide) d_M_function_94 (by have hth : thFunction S sg = 0 := (by unfold thFunction; rw [if_neg (fun z9 => z9 b1), if_neg (fun z9 => z9.elim (fun z8 => c4 (hnf.symm.trans z8)) (fun z8 => z8 b11))]); unfold stFunction rFunction; rw [if_pos hth, if_pos hth, hnf, tn_nI (by omega), nI_1]; rw [t40, t35, t29, t23, t16] at hR; exact ⟨hR, nI_pred _⟩)
      · skip
        refine W.eq (g2 := F0 m 28 ls [.int 0, .ref o]) (by rw [if_neg b11]) ?_
        refine lv_if_ne (tgt := 35) F.1 F.2.1 d_M_function_28 (by decide) (fun c42 => absurd (by decide) c42) (fun c42 => ?_)
        refine lv_iconst (v := 2) F.1 F.2.1 d_M_function_31 (by decide) ?_
        refine lv_goto (tgt := 36) F.1 F.2.1 d_M_function_32 (by decide) ?_
        refine pw_put F I_M ty_M k_M n_M hK.1 hP hS f3 rfl 0 (by decide) L_M_63 (fun _ z => z) rfl rfl rfl (Nat.le_of_ble_eq_true rfl) d_M_function_36 (fun H locs hP hS => ?_)
        have hP : pw D vwCl A (pu h o (.inr (7, (mfs ad S).set (mpos 0) (.int 2)))) H := hP
        have hR := hR.num (show 0 < 6 by decide) 2
        obtain ⟨h43, e44⟩ : ∃ z9 : pw_H, z9 = pu h o (.inr (7, (mfs ad S).set (mpos 0) (.int 2))) := ⟨_, rfl⟩
        rw [← e44] at hP
        obtain ⟨S45, t46⟩ : ∃ z9 : St, z9 = sp S 16 0 2 := ⟨_, rfl⟩
        have hR : RM cs h43 o ad S45 := by rw [e44, t46]; exact hR
        refine lv_aload_n F.1 F.2.1 d_M_function_39 rfl (lv_at hl 0 rfl) ?_
        have f47 : h43 o = some (.inr (7, [.int (S45 16 0), .int (S45 16 1), .ref (ad 0), .ref (ad 1), .ref (ad 2), .ref (ad 3), .ref (ad 4), .int (S45 16 2), .int (S45 16 3), .int (S45 16 4), .int (S45 16 5), .ref (ad 5), .ref (ad 6), .ref (ad 7), .ref (ad 8), .ref (ad 9), .ref (ad 10), .ref (ad 11), .ref (ad 12), .ref (ad 13), .ref (ad 14), .ref (ad 15)])) := hR.1
        refine pw_get F I_M hK.1 hP f47 rfl 0 (by decide) L_M_63 (fun _ z => z) rfl d_M_function_40 ?_
        refine W.eq (g2 := F0 m 43 ls [.int 2]) (by rw [show S45 16 0 = 2 from by rw [t46]; exact sp_s]) ?_
        refine lv_if_le (tgt := 48) F.1 F.2.1 d_M_function_43 (by decide) (fun c48 => absurd c48 (by decide)) (fun c48 => ?_)
        refine lv_iconst (v := 0) F.1 F.2.1 d_M_function_46 (by decide) ?_
        exact pw_iret F hr hlk hP hA hK hS (by decide) (by decide) d_M_function_47 (by have hth : thFunction S sg = 2 := (by unfold thFunction; rw [if_neg (fun z9 => z9 b1), if_pos (Or.inr b11)]); unfold stFunction rFunction; rw [hth, if_neg (by decide), if_neg (by decide)]; rw [t46] at hR; exact ⟨hR, rfl⟩)
  · skip
    refine W.eq (g2 := F0 m 8 ls [.int 0, .ref o]) (by rw [if_neg b1]) ?_
    refine lv_if_ne (tgt := 15) F.1 F.2.1 d_M_function_8 (by decide) (fun c49 => absurd (by decide) c49) (fun c49 => ?_)
    refine lv_iconst (v := 1) F.1 F.2.1 d_M_function_11 (by decide) ?_
    refine lv_goto (tgt := 36) F.1 F.2.1 d_M_function_12 (by decide) ?_
    have f50 : h o = some (.inr (7, [.int (S 16 0), .int (S 16 1), .ref (ad 0), .ref (ad 1), .ref (ad 2), .ref (ad 3), .ref (ad 4), .int (S 16 2), .int (S 16 3), .int (S 16 4), .int (S 16 5), .ref (ad 5), .ref (ad 6), .ref (ad 7), .ref (ad 8), .ref (ad 9), .ref (ad 10), .ref (ad 11), .ref (ad 12), .ref (ad 13), .ref (ad 14), .ref (ad 15)])) := hR.1
    refine pw_put F I_M ty_M k_M n_M hK.1 hP hS f50 rfl 0 (by decide) L_M_63 (fun _ z => z) rfl rfl rfl (Nat.le_of_ble_eq_true rfl) d_M_function_36 (fun H locs hP hS => ?_)
    have hP : pw D vwCl A (pu h o (.inr (7, (mfs ad S).set (mpos 0) (.int 1)))) H := hP
    have hR := hR.num (show 0 < 6 by decide) 1
    obtain ⟨h51, e52⟩ : ∃ z9 : pw_H, z9 = pu h o (.inr (7, (mfs ad S).set (mpos 0) (.int 1))) := ⟨_, rfl⟩
    rw [← e52] at hP
    obtain ⟨S53, t54⟩ : ∃ z9 : St, z9 = sp S 16 0 1 := ⟨_, rfl⟩
    have hR : RM cs h51 o ad S53 := by rw [e52, t54]; exact hR
    refine lv_aload_n F.1 F.2.1 d_M_function_39 rfl (lv_at hl 0 rfl) ?_
    have f55 : h51 o = some (.inr (7, [.int (S53 16 0), .int (S53 16 1), .ref (ad 0), .ref (ad 1), .ref (ad 2), .ref (ad 3), .ref (ad 4), .int (S53 16 2), .int (S53 16 3), .int (S53 16 4), .int (S53 16 5), .ref (ad 5), .ref (ad 6), .ref (ad 7), .ref (ad 8), .ref (ad 9), .ref (ad 10), .ref (ad 11), .ref (ad 12), .ref (ad 13), .ref (ad 14), .ref (ad 15)])) := hR.1
    refine pw_get F I_M hK.1 hP f55 rfl 0 (by decide) L_M_63 (fun _ z => z) rfl d_M_function_40 ?_
    refine W.eq (g2 := F0 m 43 ls [.int 1]) (by rw [show S53 16 0 = 1 from by rw [t54]; exact sp_s]) ?_
    refine lv_if_le (tgt := 48) F.1 F.2.1 d_M_function_43 (by decide) (fun c56 => absurd c56 (by decide)) (fun c56 => ?_)
    refine lv_iconst (v := 0) F.1 F.2.1 d_M_function_46 (by decide) ?_
    exact pw_iret F hr hlk hP hA hK hS (by decide) (by decide) d_M_function_47 (by have hth : thFunction S sg = 1 := (by unfold thFunction; rw [if_pos b1]); unfold stFunction rFunction; rw [hth, if_neg (by decide), if_neg (by decide)]; rw [t54] at hR; exact ⟨hR, rfl⟩)
abbrev rm_M_name : Room := { frames := 1, cells := 0, slots := 0, locals := 22 }
set_option maxHeartbeats 4000000 in
set_option maxRecDepth 100000 in
theorem c_M_name (l : Launch) (D : va_G) (cs : Nat → Nat) (A : Nat → Prop) (h : pw_H) (o : Nat) (ad : Nat → Nat) (S : St) (hR : RM cs h o ad S) (nf : Nat) (hnf8 : nf ≤ 8) (hnf : S 16 1 = nI nf) (fn sg : Int32) : pm l y_M_name b_M_name 4 (some .int) rm_M_name [.ref o, .int fn, .int sg] D cs A h (va_Qi (fun (r : Int32) (h' : pw_H) => RM cs h' o ad (stName S fn sg) ∧ r = rName S fn sg) (ww D cs A) A) 0 0 := by
  refine pm_of R_M rfl (by decide) (Nat.le_of_ble_eq_true rfl) (fun p e s m below meth c ls F hr hlk hnm hP hA hK hl => ?_)
  have hS : va_S A s.heap s.heap [] := va_S.rf
  replace hl : lv_has ls 4 [(0, .ref o), (1, .int fn), (2, .int sg)] := hl
  refine lv_iload_n F.1 F.2.1 d_M_name_0 rfl (lv_at hl 1 rfl) ?_
  refine lv_iconst (v := 0) F.1 F.2.1 d_M_name_1 (by decide) ?_
  refine lv_aload_n F.1 F.2.1 d_M_name_2 rfl (lv_at hl 0 rfl) ?_
  have f1 : h o = some (.inr (7, [.int (S 16 0), .int (S 16 1), .ref (ad 0), .ref (ad 1), .ref (ad 2), .ref (ad 3), .ref (ad 4), .int (S 16 2), .int (S 16 3), .int (S 16 4), .int (S 16 5), .ref (ad 5), .ref (ad 6), .ref (ad 7), .ref (ad 8), .ref (ad 9), .ref (ad 10), .ref (ad 11), .ref (ad 12), .ref (ad 13), .ref (ad 14), .ref (ad 15)])) := hR.1
  refine pw_get F I_M hK.1 hP f1 rfl 1 (by decide) L_M_76 (fun _ z => z) rfl d_M_name_3 ?_
  refine W.eq (g2 := F0 m 6 ls [.int (nI nf), .int 0, .int fn]) (by rw [hnf]) ?_
  refine lv_iconst (v := 1) F.1 F.2.1 d_M_name_6 (by decide) ?_
  refine lv_isub F.1 F.2.1 d_M_name_7 ?_
  refine pw_ciE (pr_S F (c_M_inn l D cs A h fn 0 ((nI nf) - 1)) X_M_72 rfl rfl ⟨by decide, by decide⟩ hP hA hK hS rfl hl.1 rfl (Nat.le_of_ble_eq_true rfl) d_M_name_8 ⟨by decide, by decide⟩) hS (fun H locs hP hS => ?_)
  by_cases b2 : 0 ≤ fn ∧ fn ≤ ((nI nf) - 1)
  · skip
    refine W.eq (g2 := F0 m 11 ls [.int 1]) (by rw [if_pos b2]) ?_
    obtain ⟨f, hf, rfl⟩ := mIn_nat (by omega) b2.1 b2.2
    refine lv_if_eq (tgt := 28) F.1 F.2.1 d_M_name_11 (by decide) (fun c3 => absurd c3 (by decide)) (fun c3 => ?_)
    refine lv_iload_n F.1 F.2.1 d_M_name_14 rfl (lv_at hl 2 rfl) ?_
    refine lv_iconst (v := 0) F.1 F.2.1 d_M_name_15 (by decide) ?_
    refine lv_bipush (v := 9) F.1 F.2.1 d_M_name_16 (by decide) ?_
    refine pw_ciE (pr_S F (c_M_inn l D cs A h sg 0 9) X_M_72 rfl rfl ⟨by decide, by decide⟩ hP hA hK hS rfl hl.1 rfl (Nat.le_of_ble_eq_true rfl) d_M_name_18 ⟨by decide, by decide⟩) hS (fun H locs hP hS => ?_)
    by_cases b4 : 0 ≤ sg ∧ sg ≤ 9
    · skip
      refine W.eq (g2 := F0 m 21 ls [.int 1]) (by rw [if_pos b4]) ?_
      refine lv_if_eq (tgt := 28) F.1 F.2.1 d_M_name_21 (by decide) (fun c5 => absurd c5 (by decide)) (fun c5 => ?_)
      refine lv_iconst (v := 1) F.1 F.2.1 d_M_name_24 (by decide) ?_
      refine lv_goto (tgt := 29) F.1 F.2.1 d_M_name_25 (by decide) ?_
      refine lv_istore_n F.1 F.2.1 d_M_name_29 rfl hl (by decide) rfl (fun ls hl => ?_)
      replace hl : lv_has ls 4 [(3, .int 1), (0, .ref o), (1, .int (nI f)), (2, .int sg)] := hl
      refine lv_aload_n F.1 F.2.1 d_M_name_30 rfl (lv_at hl 1 rfl) ?_
      refine lv_iload_n F.1 F.2.1 d_M_name_31 rfl (lv_at hl 0 rfl) ?_
      refine lv_if_eq (tgt := 51) F.1 F.2.1 d_M_name_32 (by decide) (fun c6 => absurd c6 (by decide)) (fun c6 => ?_)
      refine lv_aload_n F.1 F.2.1 d_M_name_35 rfl (lv_at hl 1 rfl) ?_
      refine pw_get F I_M hK.1 hP f1 rfl 2 (by decide) L_M_7 (fun _ z => z) rfl d_M_name_36 ?_
      refine lv_bipush (v := 48) F.1 F.2.1 d_M_name_39 (by decide) ?_
      refine lv_iload_n F.1 F.2.1 d_M_name_41 rfl (lv_at hl 2 rfl) ?_
      refine lv_iadd F.1 F.2.1 d_M_name_42 ?_
      refine W.eq (g2 := F0 m 43 ls [.int (nI (48 + f)), .ref (ad 0), .ref o]) (by rw [show (48 : Int32) = nI 48 from rfl, nI_add]) ?_
      have f7 : h (ad 0) = some (.inl (cs 1, 56, .inl (S 0))) := hR.2.1 0 (by decide)
      refine pw_zaldN F hK.1 hP 1 f7 rfl (k := 48 + f) (by omega) (by decide) d_M_name_43 ?_
      refine lv_if_ne (tgt := 51) F.1 F.2.1 d_M_name_44 (by decide) (fun c8 => ?_) (fun c8 => ?_)
      · skip
        refine lv_iconst (v := 1) F.1 F.2.1 d_M_name_51 (by decide) ?_
        refine pw_put F I_M ty_M k_M n_M hK.1 hP hS f1 rfl 0 (by decide) L_M_63 (fun _ z => z) rfl rfl rfl (Nat.le_of_ble_eq_true rfl) d_M_name_52 (fun H locs hP hS => ?_)
        have hP : pw D vwCl A (pu h o (.inr (7, (mfs ad S).set (mpos 0) (.int 1)))) H := hP
        have hR := hR.num (show 0 < 6 by decide) 1
        obtain ⟨h9, e10⟩ : ∃ z9 : pw_H, z9 = pu h o (.inr (7, (mfs ad S).set (mpos 0) (.int 1))) := ⟨_, rfl⟩
        rw [← e10] at hP
        obtain ⟨S11, t12⟩ : ∃ z9 : St, z9 = sp S 16 0 1 := ⟨_, rfl⟩
        have hR : RM cs h9 o ad S11 := by rw [e10, t12]; exact hR
        refine lv_aload_n F.1 F.2.1 d_M_name_55 rfl (lv_at hl 1 rfl) ?_
        have f13 : h9 o = some (.inr (7, [.int (S11 16 0), .int (S11 16 1), .ref (ad 0), .ref (ad 1), .ref (ad 2), .ref (ad 3), .ref (ad 4), .int (S11 16 2), .int (S11 16 3), .int (S11 16 4), .int (S11 16 5), .ref (ad 5), .ref (ad 6), .ref (ad 7), .ref (ad 8), .ref (ad 9), .ref (ad 10), .ref (ad 11), .ref (ad 12), .ref (ad 13), .ref (ad 14), .ref (ad 15)])) := hR.1
        refine pw_get F I_M hK.1 hP f13 rfl 0 (by decide) L_M_63 (fun _ z => z) rfl d_M_name_56 ?_
        refine W.eq (g2 := F0 m 59 ls [.int 1]) (by rw [show S11 16 0 = 1 from by rw [t12]; exact sp_s]) ?_
        refine lv_if_le (tgt := 64) F.1 F.2.1 d_M_name_59 (by decide) (fun c14 => absurd c14 (by decide)) (fun c14 => ?_)
        refine lv_iconst (v := 0) F.1 F.2.1 d_M_name_62 (by decide) ?_
        exact pw_iret F hr hlk hP hA hK hS (by decide) (by decide) d_M_name_63 (by have hth : thName S (nI f) sg = 1 := (by unfold thName; rw [if_neg (fun z9 => c8 (by have h9 := z9.2.2; rw [tn_nI (by omega)] at h9; exact h9))]); unfold stName rName; rw [hth, if_neg (by decide), if_neg (by decide)]; rw [t12] at hR; exact ⟨hR, rfl⟩)
      · skip
        refine lv_iconst (v := 0) F.1 F.2.1 d_M_name_47 (by decide) ?_
        refine lv_goto (tgt := 52) F.1 F.2.1 d_M_name_48 (by decide) ?_
        refine pw_put F I_M ty_M k_M n_M hK.1 hP hS f1 rfl 0 (by decide) L_M_63 (fun _ z => z) rfl rfl rfl (Nat.le_of_ble_eq_true rfl) d_M_name_52 (fun H locs hP hS => ?_)
        have hP : pw D vwCl A (pu h o (.inr (7, (mfs ad S).set (mpos 0) (.int 0)))) H := hP
        have hR := hR.num (show 0 < 6 by decide) 0
        obtain ⟨h15, e16⟩ : ∃ z9 : pw_H, z9 = pu h o (.inr (7, (mfs ad S).set (mpos 0) (.int 0))) := ⟨_, rfl⟩
        rw [← e16] at hP
        obtain ⟨S17, t18⟩ : ∃ z9 : St, z9 = sp S 16 0 0 := ⟨_, rfl⟩
        have hR : RM cs h15 o ad S17 := by rw [e16, t18]; exact hR
        refine lv_aload_n F.1 F.2.1 d_M_name_55 rfl (lv_at hl 1 rfl) ?_
        have f19 : h15 o = some (.inr (7, [.int (S17 16 0), .int (S17 16 1), .ref (ad 0), .ref (ad 1), .ref (ad 2), .ref (ad 3), .ref (ad 4), .int (S17 16 2), .int (S17 16 3), .int (S17 16 4), .int (S17 16 5), .ref (ad 5), .ref (ad 6), .ref (ad 7), .ref (ad 8), .ref (ad 9), .ref (ad 10), .ref (ad 11), .ref (ad 12), .ref (ad 13), .ref (ad 14), .ref (ad 15)])) := hR.1
        refine pw_get F I_M hK.1 hP f19 rfl 0 (by decide) L_M_63 (fun _ z => z) rfl d_M_name_56 ?_
        refine W.eq (g2 := F0 m 59 ls [.int 0]) (by rw [show S17 16 0 = 0 from by rw [t18]; exact sp_s]) ?_
        refine lv_if_le (tgt := 64) F.1 F.2.1 d_M_name_59 (by decide) (fun c20 => ?_) (fun c20 => absurd (by decide) c20)
        refine lv_aload_n F.1 F.2.1 d_M_name_64 rfl (lv_at hl 1 rfl) ?_
        refine pw_get F I_M hK.1 hP f19 rfl 2 (by decide) L_M_7 (fun _ z => z) rfl d_M_name_65 ?_
        refine lv_bipush (v := 48) F.1 F.2.1 d_M_name_68 (by decide) ?_
        refine lv_iload_n F.1 F.2.1 d_M_name_70 rfl (lv_at hl 2 rfl) ?_
        refine lv_iadd F.1 F.2.1 d_M_name_71 ?_
        refine W.eq (g2 := F0 m 72 ls [.int (nI (48 + f)), .ref (ad 0)]) (by rw [show (48 : Int32) = nI 48 from rfl, nI_add]) ?_
        refine lv_iconst (v := 1) F.1 F.2.1 d_M_name_72 (by decide) ?_
        have f21 : h15 (ad 0) = some (.inl (cs 1, 56, .inl (S17 0))) := hR.2.1 0 (by decide)
        refine pw_zastN F hK.1 hP hS 1 f21 rfl (k := 48 + f) (by omega) (by decide) rfl d_M_name_73 (fun H locs hP hS => ?_)
        have hP : pw D vwCl A (pu h15 (ad 0) (.inl (cs 1, 56, .inl (upd (S17 0) (48 + f) 1)))) H := hP
        have hR := hR.arr (show 0 < 16 by decide) (48 + f) 1
        obtain ⟨h22, e23⟩ : ∃ z9 : pw_H, z9 = pu h15 (ad 0) (.inl (cs 1, 56, .inl (upd (S17 0) (48 + f) 1))) := ⟨_, rfl⟩
        rw [← e23] at hP
        obtain ⟨S24, t25⟩ : ∃ z9 : St, z9 = sp S17 0 (48 + f) 1 := ⟨_, rfl⟩
        have hR : RM cs h22 o ad S24 := by rw [e23, t25]; exact hR
        refine lv_aload_n F.1 F.2.1 d_M_name_74 rfl (lv_at hl 1 rfl) ?_
        have f26 : h22 o = some (.inr (7, [.int (S24 16 0), .int (S24 16 1), .ref (ad 0), .ref (ad 1), .ref (ad 2), .ref (ad 3), .ref (ad 4), .int (S24 16 2), .int (S24 16 3), .int (S24 16 4), .int (S24 16 5), .ref (ad 5), .ref (ad 6), .ref (ad 7), .ref (ad 8), .ref (ad 9), .ref (ad 10), .ref (ad 11), .ref (ad 12), .ref (ad 13), .ref (ad 14), .ref (ad 15)])) := hR.1
        refine pw_get F I_M hK.1 hP f26 rfl 3 (by decide) L_M_13 (fun _ z => z) rfl d_M_name_75 ?_
        refine lv_bipush (v := 48) F.1 F.2.1 d_M_name_78 (by decide) ?_
        refine lv_iload_n F.1 F.2.1 d_M_name_80 rfl (lv_at hl 2 rfl) ?_
        refine lv_iadd F.1 F.2.1 d_M_name_81 ?_
        refine W.eq (g2 := F0 m 82 ls [.int (nI (48 + f)), .ref (ad 1)]) (by rw [show (48 : Int32) = nI 48 from rfl, nI_add]) ?_
        refine lv_iload_n F.1 F.2.1 d_M_name_82 rfl (lv_at hl 3 rfl) ?_
        have f27 : h22 (ad 1) = some (.inl (cs 0, 56, .inl (S24 1))) := hR.2.1 1 (by decide)
        refine pw_iastN F hK.1 hP hS 0 f27 rfl (k := 48 + f) (by omega) (by decide) d_M_name_83 (fun H locs hP hS => ?_)
        have hP : pw D vwCl A (pu h22 (ad 1) (.inl (cs 0, 56, .inl (upd (S24 1) (48 + f) sg)))) H := hP
        have hR := hR.arr (show 1 < 16 by decide) (48 + f) sg
        obtain ⟨h28, e29⟩ : ∃ z9 : pw_H, z9 = pu h22 (ad 1) (.inl (cs 0, 56, .inl (upd (S24 1) (48 + f) sg))) := ⟨_, rfl⟩
        rw [← e29] at hP
        obtain ⟨S30, t31⟩ : ∃ z9 : St, z9 = sp S24 1 (48 + f) sg := ⟨_, rfl⟩
        have hR : RM cs h28 o ad S30 := by rw [e29, t31]; exact hR
        refine lv_aload_n F.1 F.2.1 d_M_name_84 rfl (lv_at hl 1 rfl) ?_
        have f32 : h28 o = some (.inr (7, [.int (S30 16 0), .int (S30 16 1), .ref (ad 0), .ref (ad 1), .ref (ad 2), .ref (ad 3), .ref (ad 4), .int (S30 16 2), .int (S30 16 3), .int (S30 16 4), .int (S30 16 5), .ref (ad 5), .ref (ad 6), .ref (ad 7), .ref (ad 8), .ref (ad 9), .ref (ad 10), .ref (ad 11), .ref (ad 12), .ref (ad 13), .ref (ad 14), .ref (ad 15)])) := hR.1
        refine pw_get F I_M hK.1 hP f32 rfl 4 (by decide) L_M_17 (fun _ z => z) rfl d_M_name_85 ?_
        refine lv_bipush (v := 48) F.1 F.2.1 d_M_name_88 (by decide) ?_
        refine lv_iload_n F.1 F.2.1 d_M_name_90 rfl (lv_at hl 2 rfl) ?_
        refine lv_iadd F.1 F.2.1 d_M_name_91 ?_
        refine W.eq (g2 := F0 m 92 ls [.int (nI (48 + f)), .ref (ad 2)]) (by rw [show (48 : Int32) = nI 48 from rfl, nI_add]) ?_
        refine lv_iconst (v := 0) F.1 F.2.1 d_M_name_92 (by decide) ?_
        have f33 : h28 (ad 2) = some (.inl (cs 0, 56, .inl (S30 2))) := hR.2.1 2 (by decide)
        refine pw_iastN F hK.1 hP hS 0 f33 rfl (k := 48 + f) (by omega) (by decide) d_M_name_93 (fun H locs hP hS => ?_)
        have hP : pw D vwCl A (pu h28 (ad 2) (.inl (cs 0, 56, .inl (upd (S30 2) (48 + f) 0)))) H := hP
        have hR := hR.arr (show 2 < 16 by decide) (48 + f) 0
        obtain ⟨h34, e35⟩ : ∃ z9 : pw_H, z9 = pu h28 (ad 2) (.inl (cs 0, 56, .inl (upd (S30 2) (48 + f) 0))) := ⟨_, rfl⟩
        rw [← e35] at hP
        obtain ⟨S36, t37⟩ : ∃ z9 : St, z9 = sp S30 2 (48 + f) 0 := ⟨_, rfl⟩
        have hR : RM cs h34 o ad S36 := by rw [e35, t37]; exact hR
        refine lv_aload_n F.1 F.2.1 d_M_name_94 rfl (lv_at hl 1 rfl) ?_
        refine lv_dup F.1 F.2.1 d_M_name_95 rfl ?_
        have f38 : h34 o = some (.inr (7, [.int (S36 16 0), .int (S36 16 1), .ref (ad 0), .ref (ad 1), .ref (ad 2), .ref (ad 3), .ref (ad 4), .int (S36 16 2), .int (S36 16 3), .int (S36 16 4), .int (S36 16 5), .ref (ad 5), .ref (ad 6), .ref (ad 7), .ref (ad 8), .ref (ad 9), .ref (ad 10), .ref (ad 11), .ref (ad 12), .ref (ad 13), .ref (ad 14), .ref (ad 15)])) := hR.1
        refine pw_get F I_M hK.1 hP f38 rfl 7 (by decide) L_M_83 (fun _ z => z) rfl d_M_name_96 ?_
        refine W.eq (g2 := F0 m 99 ls [.int (S 16 2), .ref o]) (by rw [show S36 16 2 = S30 16 2 from by rw [t37]; exact sp_k (by decide), show S30 16 2 = S24 16 2 from by rw [t31]; exact sp_k (by decide), show S24 16 2 = S17 16 2 from by rw [t25]; exact sp_k (by decide), show S17 16 2 = S 16 2 from by rw [t18]; exact sp_j (by decide)]) ?_
        refine lv_iconst (v := 1) F.1 F.2.1 d_M_name_99 (by decide) ?_
        refine lv_iadd F.1 F.2.1 d_M_name_100 ?_
        refine pw_put F I_M ty_M k_M n_M hK.1 hP hS f38 rfl 7 (by decide) L_M_83 (fun _ z => z) rfl rfl rfl (Nat.le_of_ble_eq_true rfl) d_M_name_101 (fun H locs hP hS => ?_)
        have hP : pw D vwCl A (pu h34 o (.inr (7, (mfs ad S36).set (mpos 2) (.int ((S 16 2) + 1))))) H := hP
        have hR := hR.num (show 2 < 6 by decide) ((S 16 2) + 1)
        obtain ⟨h39, e40⟩ : ∃ z9 : pw_H, z9 = pu h34 o (.inr (7, (mfs ad S36).set (mpos 2) (.int ((S 16 2) + 1)))) := ⟨_, rfl⟩
        rw [← e40] at hP
        obtain ⟨S41, t42⟩ : ∃ z9 : St, z9 = sp S36 16 2 ((S 16 2) + 1) := ⟨_, rfl⟩
        have hR : RM cs h39 o ad S41 := by rw [e40, t42]; exact hR
        refine lv_aload_n F.1 F.2.1 d_M_name_104 rfl (lv_at hl 1 rfl) ?_
        have f43 : h39 o = some (.inr (7, [.int (S41 16 0), .int (S41 16 1), .ref (ad 0), .ref (ad 1), .ref (ad 2), .ref (ad 3), .ref (ad 4), .int (S41 16 2), .int (S41 16 3), .int (S41 16 4), .int (S41 16 5), .ref (ad 5), .ref (ad 6), .ref (ad 7), .ref (ad 8), .ref (ad 9), .ref (ad 10), .ref (ad 11), .ref (ad 12), .ref (ad 13), .ref (ad 14), .ref (ad 15)])) := hR.1
        refine pw_get F I_M hK.1 hP f43 rfl 7 (by decide) L_M_83 (fun _ z => z) rfl d_M_name_105 ?_
        refine W.eq (g2 := F0 m 108 ls [.int ((S 16 2) + 1)]) (by rw [show S41 16 2 = (S 16 2) + 1 from by rw [t42]; exact sp_s]) ?_
        exact pw_iret F hr hlk hP hA hK hS (by decide) (by decide) d_M_name_108 (by have hth : thName S (nI f) sg = 0 := (by unfold thName; rw [if_pos ⟨hnf ▸ b2, b4, by rw [tn_nI (by omega)]; exact c8⟩]); unfold stName rName; rw [if_pos hth, if_pos hth, tn_nI (by omega)]; rw [t42, t37, t31, t25, t18] at hR; exact ⟨hR, rfl⟩)
    · skip
      refine W.eq (g2 := F0 m 21 ls [.int 0]) (by rw [if_neg b4]) ?_
      refine lv_if_eq (tgt := 28) F.1 F.2.1 d_M_name_21 (by decide) (fun c44 => ?_) (fun c44 => absurd (by decide) c44)
      refine lv_iconst (v := 0) F.1 F.2.1 d_M_name_28 (by decide) ?_
      refine lv_istore_n F.1 F.2.1 d_M_name_29 rfl hl (by decide) rfl (fun ls hl => ?_)
      replace hl : lv_has ls 4 [(3, .int 0), (0, .ref o), (1, .int (nI f)), (2, .int sg)] := hl
      refine lv_aload_n F.1 F.2.1 d_M_name_30 rfl (lv_at hl 1 rfl) ?_
      refine lv_iload_n F.1 F.2.1 d_M_name_31 rfl (lv_at hl 0 rfl) ?_
      refine lv_if_eq (tgt := 51) F.1 F.2.1 d_M_name_32 (by decide) (fun c45 => ?_) (fun c45 => absurd (by decide) c45)
      refine lv_iconst (v := 1) F.1 F.2.1 d_M_name_51 (by decide) ?_
      refine pw_put F I_M ty_M k_M n_M hK.1 hP hS f1 rfl 0 (by decide) L_M_63 (fun _ z => z) rfl rfl rfl (Nat.le_of_ble_eq_true rfl) d_M_name_52 (fun H locs hP hS => ?_)
      have hP : pw D vwCl A (pu h o (.inr (7, (mfs ad S).set (mpos 0) (.int 1)))) H := hP
      have hR := hR.num (show 0 < 6 by decide) 1
      obtain ⟨h46, e47⟩ : ∃ z9 : pw_H, z9 = pu h o (.inr (7, (mfs ad S).set (mpos 0) (.int 1))) := ⟨_, rfl⟩
      rw [← e47] at hP
      obtain ⟨S48, t49⟩ : ∃ z9 : St, z9 = sp S 16 0 1 := ⟨_, rfl⟩
      have hR : RM cs h46 o ad S48 := by rw [e47, t49]; exact hR
      refine lv_aload_n F.1 F.2.1 d_M_name_55 rfl (lv_at hl 1 rfl) ?_
      have f50 : h46 o = some (.inr (7, [.int (S48 16 0), .int (S48 16 1), .ref (ad 0), .ref (ad 1), .ref (ad 2), .ref (ad 3), .ref (ad 4), .int (S48 16 2), .int (S48 16 3), .int (S48 16 4), .int (S48 16 5), .ref (ad 5), .ref (ad 6), .ref (ad 7), .ref (ad 8), .ref (ad 9), .ref (ad 10), .ref (ad 11), .ref (ad 12), .ref (ad 13), .ref (ad 14), .ref (ad 15)])) := hR.1
      refine pw_get F I_M hK.1 hP f50 rfl 0 (by decide) L_M_63 (fun _ z => z) rfl d_M_name_56 ?_
      refine W.eq (g2 := F0 m 59 ls [.int 1]) (by rw [show S48 16 0 = 1 from by rw [t49]; exact sp_s]) ?_
      refine lv_if_le (tgt := 64) F.1 F.2.1 d_M_name_59 (by decide) (fun c51 => absurd c51 (by decide)) (fun c51 => ?_)
      refine lv_iconst (v := 0) F.1 F.2.1 d_M_name_62 (by decide) ?_
      exact pw_iret F hr hlk hP hA hK hS (by decide) (by decide) d_M_name_63 (by have hth : thName S (nI f) sg = 1 := (by unfold thName; rw [if_neg (fun z9 => b4 z9.2.1)]); unfold stName rName; rw [hth, if_neg (by decide), if_neg (by decide)]; rw [t49] at hR; exact ⟨hR, rfl⟩)
  · skip
    refine W.eq (g2 := F0 m 11 ls [.int 0]) (by rw [if_neg b2]) ?_
    refine lv_if_eq (tgt := 28) F.1 F.2.1 d_M_name_11 (by decide) (fun c52 => ?_) (fun c52 => absurd (by decide) c52)
    refine lv_iconst (v := 0) F.1 F.2.1 d_M_name_28 (by decide) ?_
    refine lv_istore_n F.1 F.2.1 d_M_name_29 rfl hl (by decide) rfl (fun ls hl => ?_)
    replace hl : lv_has ls 4 [(3, .int 0), (0, .ref o), (1, .int fn), (2, .int sg)] := hl
    refine lv_aload_n F.1 F.2.1 d_M_name_30 rfl (lv_at hl 1 rfl) ?_
    refine lv_iload_n F.1 F.2.1 d_M_name_31 rfl (lv_at hl 0 rfl) ?_
    refine lv_if_eq (tgt := 51) F.1 F.2.1 d_M_name_32 (by decide) (fun c53 => ?_) (fun c53 => absurd (by decide) c53)
    refine lv_iconst (v := 1) F.1 F.2.1 d_M_name_51 (by decide) ?_
    refine pw_put F I_M ty_M k_M n_M hK.1 hP hS f1 rfl 0 (by decide) L_M_63 (fun _ z => z) rfl rfl rfl (Nat.le_of_ble_eq_true rfl) d_M_name_52 (fun H locs hP hS => ?_)
    have hP : pw D vwCl A (pu h o (.inr (7, (mfs ad S).set (mpos 0) (.int 1)))) H := hP
    have hR := hR.num (show 0 < 6 by decide) 1
    obtain ⟨h54, e55⟩ : ∃ z9 : pw_H, z9 = pu h o (.inr (7, (mfs ad S).set (mpos 0) (.int 1))) := ⟨_, rfl⟩
    rw [← e55] at hP
    obtain ⟨S56, t57⟩ : ∃ z9 : St, z9 = sp S 16 0 1 := ⟨_, rfl⟩
    have hR : RM cs h54 o ad S56 := by rw [e55, t57]; exact hR
    refine lv_aload_n F.1 F.2.1 d_M_name_55 rfl (lv_at hl 1 rfl) ?_
    have f58 : h54 o = some (.inr (7, [.int (S56 16 0), .int (S56 16 1), .ref (ad 0), .ref (ad 1), .ref (ad 2), .ref (ad 3), .ref (ad 4), .int (S56 16 2), .int (S56 16 3), .int (S56 16 4), .int (S56 16 5), .ref (ad 5), .ref (ad 6), .ref (ad 7), .ref (ad 8), .ref (ad 9), .ref (ad 10), .ref (ad 11), .ref (ad 12), .ref (ad 13), .ref (ad 14), .ref (ad 15)])) := hR.1
    refine pw_get F I_M hK.1 hP f58 rfl 0 (by decide) L_M_63 (fun _ z => z) rfl d_M_name_56 ?_
    refine W.eq (g2 := F0 m 59 ls [.int 1]) (by rw [show S56 16 0 = 1 from by rw [t57]; exact sp_s]) ?_
    refine lv_if_le (tgt := 64) F.1 F.2.1 d_M_name_59 (by decide) (fun c59 => absurd c59 (by decide)) (fun c59 => ?_)
    refine lv_iconst (v := 0) F.1 F.2.1 d_M_name_62 (by decide) ?_
    exact pw_iret F hr hlk hP hA hK hS (by decide) (by decide) d_M_name_63 (by have hth : thName S fn sg = 1 := (by unfold thName; rw [if_neg (fun z9 => b2 (hnf ▸ ⟨z9.1.1, z9.1.2⟩))]); unfold stName rName; rw [hth, if_neg (by decide), if_neg (by decide)]; rw [t57] at hR; exact ⟨hR, rfl⟩)
end
