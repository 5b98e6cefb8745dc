section
-- ===== PART A: goes FIRST, ahead of the names: the tables' words, and 'selects' of the private methods out of them =====
/-- a private method of a class that the tables say can be made, by its rows of tables_1 -/
def lw_okq (q : MethodName × Nat) : Prop := (q.1.cls ≠ "java/lang/invoke/MethodHandle" ∧ q.1.cls ≠ "java/lang/invoke/VarHandle") ∧ Cond.instantiable q.1.cls q.2 ∈ tables_1 ∧ Cond.privateMethod q.1 ∈ tables_1 ∧ Cond.instanceMethod q.1 ∈ tables_1
theorem lw_p0 : lw_okq (⟨"java/lang/Throwable", "fillInStackTrace", "(I)Ljava/lang/Throwable;"⟩, 6) := ⟨⟨by decide +kernel, by decide +kernel⟩, List.mem_of_getElem? (i := 290) (by decide +kernel), List.mem_of_getElem? (i := 288) (by decide +kernel), List.mem_of_getElem? (i := 289) (by decide +kernel)⟩
theorem lw_p1 : lw_okq (⟨"LeastRows$History", "stateAt", "(I)LLeastRows$State;"⟩, 3) := ⟨⟨by decide +kernel, by decide +kernel⟩, List.mem_of_getElem? (i := 179) (by decide +kernel), List.mem_of_getElem? (i := 341) (by decide +kernel), List.mem_of_getElem? (i := 342) (by decide +kernel)⟩
theorem lw_p2 : lw_okq (⟨"LeastRows$Rule", "isGreater", "(III)Z"⟩, 5) := ⟨⟨by decide +kernel, by decide +kernel⟩, List.mem_of_getElem? (i := 71) (by decide +kernel), List.mem_of_getElem? (i := 376) (by decide +kernel), List.mem_of_getElem? (i := 377) (by decide +kernel)⟩
theorem lw_p3 : lw_okq (⟨"LeastRows$Rule", "note", "(III)V"⟩, 5) := ⟨⟨by decide +kernel, by decide +kernel⟩, List.mem_of_getElem? (i := 71) (by decide +kernel), List.mem_of_getElem? (i := 381) (by decide +kernel), List.mem_of_getElem? (i := 382) (by decide +kernel)⟩
theorem lw_p4 : lw_okq (⟨"LeastRows", "isOpen", "(I)Z"⟩, 8) := ⟨⟨by decide +kernel, by decide +kernel⟩, List.mem_of_getElem? (i := 17) (by decide +kernel), List.mem_of_getElem? (i := 398) (by decide +kernel), List.mem_of_getElem? (i := 399) (by decide +kernel)⟩
theorem lw_p5 : lw_okq (⟨"LeastRows$Finder", "leaveAllColumns", "()V"⟩, 7) := ⟨⟨by decide +kernel, by decide +kernel⟩, List.mem_of_getElem? (i := 97) (by decide +kernel), List.mem_of_getElem? (i := 422) (by decide +kernel), List.mem_of_getElem? (i := 423) (by decide +kernel)⟩
theorem lw_p6 : lw_okq (⟨"LeastRows$Finder", "leftmostLeast", "(IIII)I"⟩, 7) := ⟨⟨by decide +kernel, by decide +kernel⟩, List.mem_of_getElem? (i := 97) (by decide +kernel), List.mem_of_getElem? (i := 430) (by decide +kernel), List.mem_of_getElem? (i := 431) (by decide +kernel)⟩
theorem lw_p7 : lw_okq (⟨"LeastRows$Finder", "columnLeft", "(II)I"⟩, 7) := ⟨⟨by decide +kernel, by decide +kernel⟩, List.mem_of_getElem? (i := 97) (by decide +kernel), List.mem_of_getElem? (i := 437) (by decide +kernel), List.mem_of_getElem? (i := 438) (by decide +kernel)⟩
theorem lw_p8 : lw_okq (⟨"LeastRows$Finder", "look", "(II)I"⟩, 7) := ⟨⟨by decide +kernel, by decide +kernel⟩, List.mem_of_getElem? (i := 97) (by decide +kernel), List.mem_of_getElem? (i := 442) (by decide +kernel), List.mem_of_getElem? (i := 443) (by decide +kernel)⟩
theorem lw_p9 : lw_okq (⟨"LeastRows$Finder", "setPlace", "(II)V"⟩, 7) := ⟨⟨by decide +kernel, by decide +kernel⟩, List.mem_of_getElem? (i := 97) (by decide +kernel), List.mem_of_getElem? (i := 447) (by decide +kernel), List.mem_of_getElem? (i := 448) (by decide +kernel)⟩
theorem lw_p10 : lw_okq (⟨"LeastRows$Finder", "pileColumns", "(I)V"⟩, 7) := ⟨⟨by decide +kernel, by decide +kernel⟩, List.mem_of_getElem? (i := 97) (by decide +kernel), List.mem_of_getElem? (i := 451) (by decide +kernel), List.mem_of_getElem? (i := 452) (by decide +kernel)⟩
theorem lw_p11 : lw_okq (⟨"LeastRows$Finder", "rowsAt", "(I)I"⟩, 7) := ⟨⟨by decide +kernel, by decide +kernel⟩, List.mem_of_getElem? (i := 97) (by decide +kernel), List.mem_of_getElem? (i := 455) (by decide +kernel), List.mem_of_getElem? (i := 456) (by decide +kernel)⟩
theorem lw_p12 : lw_okq (⟨"LeastRows$Finder", "heightAfterThrowing", "(III)I"⟩, 7) := ⟨⟨by decide +kernel, by decide +kernel⟩, List.mem_of_getElem? (i := 97) (by decide +kernel), List.mem_of_getElem? (i := 459) (by decide +kernel), List.mem_of_getElem? (i := 460) (by decide +kernel)⟩
theorem lw_p13 : lw_okq (⟨"LeastRows$Finder", "rowAt", "(II)I"⟩, 7) := ⟨⟨by decide +kernel, by decide +kernel⟩, List.mem_of_getElem? (i := 97) (by decide +kernel), List.mem_of_getElem? (i := 463) (by decide +kernel), List.mem_of_getElem? (i := 464) (by decide +kernel)⟩
theorem lw_p14 : lw_okq (⟨"LeastRows$Finder", "fillBetween", "(I)V"⟩, 7) := ⟨⟨by decide +kernel, by decide +kernel⟩, List.mem_of_getElem? (i := 97) (by decide +kernel), List.mem_of_getElem? (i := 467) (by decide +kernel), List.mem_of_getElem? (i := 468) (by decide +kernel)⟩
theorem lw_p15 : lw_okq (⟨"LeastRows$Finder", "lookAtAll", "()V"⟩, 7) := ⟨⟨by decide +kernel, by decide +kernel⟩, List.mem_of_getElem? (i := 97) (by decide +kernel), List.mem_of_getElem? (i := 475) (by decide +kernel), List.mem_of_getElem? (i := 476) (by decide +kernel)⟩
def lw_privs_1 : List (MethodName × Nat) := [(⟨"java/lang/Throwable", "fillInStackTrace", "(I)Ljava/lang/Throwable;"⟩, 6), (⟨"LeastRows$History", "stateAt", "(I)LLeastRows$State;"⟩, 3), (⟨"LeastRows$Rule", "isGreater", "(III)Z"⟩, 5), (⟨"LeastRows$Rule", "note", "(III)V"⟩, 5), (⟨"LeastRows", "isOpen", "(I)Z"⟩, 8), (⟨"LeastRows$Finder", "leaveAllColumns", "()V"⟩, 7), (⟨"LeastRows$Finder", "leftmostLeast", "(IIII)I"⟩, 7), (⟨"LeastRows$Finder", "columnLeft", "(II)I"⟩, 7), (⟨"LeastRows$Finder", "look", "(II)I"⟩, 7), (⟨"LeastRows$Finder", "setPlace", "(II)V"⟩, 7), (⟨"LeastRows$Finder", "pileColumns", "(I)V"⟩, 7), (⟨"LeastRows$Finder", "rowsAt", "(I)I"⟩, 7), (⟨"LeastRows$Finder", "heightAfterThrowing", "(III)I"⟩, 7), (⟨"LeastRows$Finder", "rowAt", "(II)I"⟩, 7), (⟨"LeastRows$Finder", "fillBetween", "(I)V"⟩, 7), (⟨"LeastRows$Finder", "lookAtAll", "()V"⟩, 7)]
theorem lw_r1 : ∀ q ∈ lw_privs_1, lw_okq q := List.forall_mem_cons.mpr ⟨lw_p0, List.forall_mem_cons.mpr ⟨lw_p1, List.forall_mem_cons.mpr ⟨lw_p2, List.forall_mem_cons.mpr ⟨lw_p3, List.forall_mem_cons.mpr ⟨lw_p4, List.forall_mem_cons.mpr ⟨lw_p5, List.forall_mem_cons.mpr ⟨lw_p6, List.forall_mem_cons.mpr ⟨lw_p7, List.forall_mem_cons.mpr ⟨lw_p8, List.forall_mem_cons.mpr ⟨lw_p9, List.forall_mem_cons.mpr ⟨lw_p10, List.forall_mem_cons.mpr ⟨lw_p11, List.forall_mem_cons.mpr ⟨lw_p12, List.forall_mem_cons.mpr ⟨lw_p13, List.forall_mem_cons.mpr ⟨lw_p14, List.forall_mem_cons.mpr ⟨lw_p15, fun _ h => absurd h List.not_mem_nil⟩⟩⟩⟩⟩⟩⟩⟩⟩⟩⟩⟩⟩⟩⟩⟩
theorem lw_p16 : lw_okq (⟨"LeastRows", "slotAt", "(I)LLeastRows$Slot;"⟩, 8) := ⟨⟨by decide +kernel, by decide +kernel⟩, List.mem_of_getElem? (i := 17) (by decide +kernel), List.mem_of_getElem? (i := 498) (by decide +kernel), List.mem_of_getElem? (i := 499) (by decide +kernel)⟩
theorem lw_p17 : lw_okq (⟨"LeastRows", "counted", "(I)I"⟩, 8) := ⟨⟨by decide +kernel, by decide +kernel⟩, List.mem_of_getElem? (i := 17) (by decide +kernel), List.mem_of_getElem? (i := 527) (by decide +kernel), List.mem_of_getElem? (i := 528) (by decide +kernel)⟩
theorem lw_p18 : lw_okq (⟨"LeastRows$Text", "takes", "(I)Z"⟩, 8) := ⟨⟨by decide +kernel, by decide +kernel⟩, List.mem_of_getElem? (i := 147) (by decide +kernel), List.mem_of_getElem? (i := 601) (by decide +kernel), List.mem_of_getElem? (i := 602) (by decide +kernel)⟩
theorem lw_p19 : lw_okq (⟨"LeastRows$Text", "takesDigit", "(I)Z"⟩, 8) := ⟨⟨by decide +kernel, by decide +kernel⟩, List.mem_of_getElem? (i := 147) (by decide +kernel), List.mem_of_getElem? (i := 606) (by decide +kernel), List.mem_of_getElem? (i := 607) (by decide +kernel)⟩
theorem lw_p20 : lw_okq (⟨"LeastRows$Text", "takesComma", "()Z"⟩, 8) := ⟨⟨by decide +kernel, by decide +kernel⟩, List.mem_of_getElem? (i := 147) (by decide +kernel), List.mem_of_getElem? (i := 610) (by decide +kernel), List.mem_of_getElem? (i := 611) (by decide +kernel)⟩
theorem lw_p21 : lw_okq (⟨"LeastRows$Text", "takesSlash", "()Z"⟩, 8) := ⟨⟨by decide +kernel, by decide +kernel⟩, List.mem_of_getElem? (i := 147) (by decide +kernel), List.mem_of_getElem? (i := 614) (by decide +kernel), List.mem_of_getElem? (i := 615) (by decide +kernel)⟩
theorem lw_p22 : lw_okq (⟨"LeastRows$Text", "isRowFull", "()Z"⟩, 8) := ⟨⟨by decide +kernel, by decide +kernel⟩, List.mem_of_getElem? (i := 147) (by decide +kernel), List.mem_of_getElem? (i := 618) (by decide +kernel), List.mem_of_getElem? (i := 619) (by decide +kernel)⟩
theorem lw_p23 : lw_okq (⟨"LeastRows$Cutter", "planLastCut", "(II)V"⟩, 5) := ⟨⟨by decide +kernel, by decide +kernel⟩, List.mem_of_getElem? (i := 125) (by decide +kernel), List.mem_of_getElem? (i := 678) (by decide +kernel), List.mem_of_getElem? (i := 679) (by decide +kernel)⟩
def lw_privs_2 : List (MethodName × Nat) := [(⟨"LeastRows", "slotAt", "(I)LLeastRows$Slot;"⟩, 8), (⟨"LeastRows", "counted", "(I)I"⟩, 8), (⟨"LeastRows$Text", "takes", "(I)Z"⟩, 8), (⟨"LeastRows$Text", "takesDigit", "(I)Z"⟩, 8), (⟨"LeastRows$Text", "takesComma", "()Z"⟩, 8), (⟨"LeastRows$Text", "takesSlash", "()Z"⟩, 8), (⟨"LeastRows$Text", "isRowFull", "()Z"⟩, 8), (⟨"LeastRows$Cutter", "planLastCut", "(II)V"⟩, 5)]
theorem lw_r2 : ∀ q ∈ lw_privs_2, lw_okq q := List.forall_mem_cons.mpr ⟨lw_p16, List.forall_mem_cons.mpr ⟨lw_p17, List.forall_mem_cons.mpr ⟨lw_p18, List.forall_mem_cons.mpr ⟨lw_p19, List.forall_mem_cons.mpr ⟨lw_p20, List.forall_mem_cons.mpr ⟨lw_p21, List.forall_mem_cons.mpr ⟨lw_p22, List.forall_mem_cons.mpr ⟨lw_p23, fun _ h => absurd h List.not_mem_nil⟩⟩⟩⟩⟩⟩⟩⟩
def lw_privs : List (MethodName × Nat) := lw_privs_1 ++ (lw_privs_2)
def lw_tbl : List Cond := k2_sels lw_privs ++ tables_1
theorem lw_privs_ok : ∀ q ∈ lw_privs, lw_okq q := by
  show ∀ q ∈ lw_privs_1 ++ (lw_privs_2), lw_okq q
  exact List.forall_mem_append.mpr ⟨lw_r1, lw_r2⟩
/-- the streams that the claim lets the run draw from -/
abbrev lw_cs : List Choice := [Jvm.Choice.named "NaN.bits"]
theorem lw_bits : nanBits ∈ lw_cs := by first | decide | exact List.mem_cons_self | simp [lw_cs, nanBits]
/-! ===== BEGIN words of one list among another's, by their places ===== -/
theorem goodIn_r {big : List Cond} (ws : List Cond) (ps : List Nat) (hp : ws = ps.filterMap (fun i => big[i]?)) (h : ws.all goodWord = true) : GoodIn big ws := by
  intro w hw
  have h1 := List.all_eq_true.mp h w hw
  rw [hp] at hw
  obtain ⟨i, -, hi⟩ := List.mem_filterMap.mp hw
  have hm : w ∈ big := by first | exact List.mem_of_getElem? hi | exact List.getElem?_mem hi
  exact ⟨hm, good_of_word h1⟩
theorem goodIn_app {big a b : List Cond} (ha : GoodIn big a) (hb : GoodIn big b) : GoodIn big (a ++ b) := fun w h => (List.mem_append.mp h).elim (ha w) (hb w)
theorem goodIn_ca {big a b : List Cond} {c : Cond} (ha : GoodIn big (c :: a)) (hb : GoodIn big b) : GoodIn big (c :: (a ++ b)) := fun w h => (List.mem_cons.mp h).elim (fun e => ha w (List.mem_cons.mpr (Or.inl e))) (fun h => (List.mem_append.mp h).elim (fun h => ha w (List.mem_cons.mpr (Or.inr h))) (hb w))
theorem goodIn_sub {big ws : List Cond} (hm : ∀ w ∈ ws, w ∈ big) (h : ws.all goodWord = true) : GoodIn big ws := fun w hw => ⟨hm w hw, good_of_word (List.all_eq_true.mp h w hw)⟩
/-! ===== END ===== -/

/-! ===== BEGIN exceptions that leave a method, and their catching by the caller (launches without stack traces) ===== -/
section VXA
/-! The laws vx_back, vx_callV, vx_callS, vx_callSW, vx_throw0, vx_throwS follow proofs of the library, with one case more: JvmDerived/Free/Laws.lean (Back.of_free), Shelf42/LK1.lean (callV, callS), Shelf/KitTraced.lean (throwNew0V, throwNewS). -/
/-- where a method has thrown q: the class by its name, the cell, what was written, the world -/
def vx_T (XC : String → State → State → Prop) (st : State) (q : Addr) (t : State) (mc ms : Nat) (free : Addr → Prop) : Prop :=
  ∃ (E : String) (ce : Cell) (L : List Loc), XC E st t ∧ t.heap[q]? = some ce ∧ ce.vm = .none ∧ st.vm.findClass E = some ce.cls ∧ st.WarmedH t.vm ∧ st.sameButNew ({ t with vm := st.vm } : State) L mc ms ∧ ∀ z ∈ L, free z.base
def vx_Q (Qc : Array Value → State → Outcome → State → Prop) (XC : String → State → State → Prop) (mc ms : Nat) (free : Addr → Prop) : Array Value → State → Outcome → State → Prop := fun a st o t =>
  (Qc a st o t ∧ ∃ L, FrameEnd st o t L mc ms ∧ ∀ q ∈ L, free q.base) ∨ ∃ q, o = .threw q ∧ vx_T XC st q t mc ms free
/-- a callee that returns or throws -/
def vx_Met (l : Launch) (y : MethodName) (ws : List Cond) (rm : Room) (Pc : Array Value → State → Prop) (Qc : Array Value → State → Outcome → State → Prop) (XC : String → State → State → Prop) (mc ms : Nat) (free : Addr → Prop) : Prop :=
  MetFree l y (headSpec ws rm) Pc (fun _ _ _ _ _ => True) (vx_Q Qc XC mc ms free)
def vx_Post (XC : String → State → State → Prop) (mc ms : Nat) (free : Addr → Prop) : Pt → Array Value → Addr → Pt → Prop := fun A a q B =>
  ∃ (g : JFrame) (mk : MethodId) (t : State) (L : List Loc) (E : String) (ce : Cell), B.U.heap = t.heap ∧ B.U.vm = t.vm ∧ XC E (A.U.calling g mk a) t ∧ t.heap[q]? = some ce ∧ ce.vm = .none ∧ A.U.vm.findClass E = some ce.cls ∧ B.locs = A.locs ++ L ∧ (∀ z ∈ L, free z.base) ∧ B.cells = A.cells + mc ∧ B.slots = A.slots + ms
def vx_Back (l : Launch) (R : Room) (p : Program) (e : Env) (below : List Frame) (s : State) (sargs : Array Value) (y : MethodName) (len W9 : Nat)
    (Pre : Pt → Array Value → Prop) (Post : Pt → Array Value → Option Value → Pt → Prop) (PostX : Pt → Array Value → Addr → Pt → Prop) : Prop :=
  ∀ (m : MethodId) (meth : Method) (c : Code) (A : Pt) (g : JFrame) (ig : Instr) (mk : MethodId) (a : Array Value),
    Stand p l e R s m sargs below meth c A.U A.locs A.cells A.slots → g.method = m → g.locals.size = c.maxLocals → decode c.code g.pc = .ok (ig, len) →
    2 * g.monitorRoom + (g.stack.map fun v => v.category).sum ≤ W9 → A.U.methodNamed? y = some mk → Pre A a →
    (∃ (v : Option Value) (B : Pt), Stand p l e R s m sargs below meth c B.U B.locs B.cells B.slots ∧ Post A a v B ∧
      Steps p.tables e below (doInvoke e (A.U.setTop g) [] mk a).1 (B.U.setTop { g with pc := g.pc + len, stack := v.toList ++ g.stack })) ∨
    (∃ (q : Addr) (B : Pt), Stand p l e R s m sargs below meth c B.U B.locs B.cells B.slots ∧ PostX A a q B ∧
      Steps p.tables e below (doInvoke e (A.U.setTop g) [] mk a).1 ((B.U.setTop g).pushFrame (.throwing q)))
section Payer
variable {l : Launch} {R : Room} {p : Program} {e : Env} {below : List Frame} {s : State} {sargs : Array Value} {y : MethodName} {len W9 : Nat}
theorem vx_back {ws : List Cond} {rm : Room} {Pc : Array Value → State → Prop} {Qc : Array Value → State → Outcome → State → Prop} {XC : String → State → State → Prop} {mc ms : Nat} {free : Addr → Prop} {bytes : ByteArray} {maxL : Nat} {ret : Option FieldType}
    (hM : vx_Met l y ws rm Pc Qc XC mc ms free) (hblind : FrameBlind Pc) (hrc : rm.cells = mc) (hrs : rm.slots = ms)
    (hframes : rm.frames + 1 ≤ R.frames) (hlocals : W9 + (maxL + 11) + rm.locals ≤ R.locals)
    (hws : ∀ w ∈ ws, ∀ a' U, s.WarmedH U.vm → w.before a' U = true) (hcode : Cond.code y bytes maxL ret ∈ ws) (hinit : ∀ a' U, s.WarmedH U.vm → (Cond.initialized y.cls).before a' U = true) :
    vx_Back l R p e below s sargs y len W9 (PreOf R mc ms Pc) (PostOf Qc mc ms free) (vx_Post XC mc ms free) := by
  intro m meth c A g ig mk a X hg hsize hdg hW hn hp
  have h1 : (headSpec ws rm).pre.before a A.U = true := atoms_intro fun w hw => hws w hw _ _ X.warmed
  have h2 : (Cond.code y bytes maxL ret).before a A.U = true := hws _ hcode _ _ X.warmed
  have h3 : (Cond.initialized y.cls).before a A.U = true := hinit _ _ X.warmed
  have h4 : A.cells + (headSpec ws rm).room.cells ≤ R.cells := by rw [show (headSpec ws rm).room.cells = mc from hrc]; exact hp.1
  have h5 : A.slots + (headSpec ws rm).room.slots ≤ R.slots := by rw [show (headSpec ws rm).room.slots = ms from hrs]; exact hp.2.1
  have hPc : Pc a (A.U.calling g mk a) := hblind _ _ _ _ hp.2.2
  obtain ⟨U, Ls, c0, s0⟩ := A
  dsimp only [Pt.U, Pt.locs, Pt.cells, Pt.slots] at h1 h2 h3 h4 h5 X hn hPc ⊢
  obtain ⟨methY, cY, hmY, hcY, -, hlY, -, -, -, -⟩ := Cond.code_spec hn h2
  obtain ⟨kY, hkY, -⟩ := className_of_methodNamed hn
  have hinitY : kY.init = .initialized := Cond.initialized_spec (findClass_of_methodNamed hn) hkY h3
  have h : At U g.method c below := by rw [hg]; exact X.here
  have hlocals9 : W9 + (maxL + 11) + (headSpec ws rm).room.locals ≤ R.locals := hlocals
  have happ : (headSpec ws rm).appliesLoose y e.platform (U.calling g mk a) = true :=
    Spec.appliesLoose_calling (g := g) h hdg hn hkY hinitY
      (X.room_calling (g := g) (R' := (headSpec ws rm).room) hsize hmY hcY hframes (by rw [hlY]; omega) h4 h5) h1
  obtain ⟨mid, hmid⟩ := h.above
  have hfr : (U.setTop g).frames = (.java g :: mid) ++ below := by rw [State.frames_setTop' g h.top, hmid]; rfl
  obtain ⟨o, s₂, hsteps, -, hend, hq⟩ := Steps.callFree hM p X.admits X.cas X.clock (acts := []) hfr happ hPc trivial
  have hq' : vx_Q Qc XC mc ms free a (U.calling g mk a) o s₂ := hq
  rw [State.frames_setTop' g h.top] at hend
  obtain ⟨g₀, hg0⟩ := Option.isSome_iff_exists.mp h.top
  obtain ⟨r, hr⟩ := State.topJava?_eq_some.mp hg0
  have hr' : (({ U with heap := s₂.heap, slotsUsed := s₂.slotsUsed } : State).setVm s₂.vm).frames = .java g₀ :: r := hr
  rcases hq' with ⟨hqc, L, hfe, hL⟩ | ⟨q, rfl, E, ce, L, hx, hce, hcv, hcl, hW₂, hsm, hL⟩
  · obtain ⟨⟨v, rfl⟩, hW₂, e2, q2, q3, q4, q5, q6⟩ := id hfe
    have e3 : s₂ = ({ (U.calling g mk a).setFrames s₂.frames with heap := s₂.heap, slotsUsed := s₂.slotsUsed } : State).setVm s₂.vm := by
      have : s₂ = ({ s₂ with vm := (U.calling g mk a).vm } : State).setVm s₂.vm := rfl
      rw [e2] at this
      exact this
    obtain ⟨c₂, i₂, len₂, hc₂, hd₂, hf₂⟩ := hend
    have hW' : U.WarmedH s₂.vm := hW₂
    have hcc : c₂ = c := by
      have h1 : s₂.code? g.method = U.code? g.method := by
        rw [State.code?_eq, State.code?_eq, hW'.alike.method?]
      exact Option.some.inj (hc₂.symm.trans (h1.trans h.code))
    subst hcc
    have hlen : len₂ = len := by rw [hdg] at hd₂; cases hd₂; rfl
    subst hlen
    have hs₂ : s₂ = (({ U with heap := s₂.heap, slotsUsed := s₂.slotsUsed } : State).setVm s₂.vm).setTop { g with pc := g.pc + len₂, stack := v.toList ++ g.stack } := by
      refine e3.trans ?_
      rw [hf₂, State.calling_eq h.top, State.setFrames_setFrames, State.setTop_of_frames _ hr', hr]
      rfl
    have hsame : U.sameButNew ({ U with heap := s₂.heap, slotsUsed := s₂.slotsUsed } : State) L mc ms := by
      refine ⟨?_, q2, q3, q4, q5, q6⟩
      obtain ⟨t, ht, -⟩ := State.frames_cons hr
      show ({ U with heap := s₂.heap, slotsUsed := s₂.slotsUsed } : State) = { U.setFrames U.frames with heap := s₂.heap, slotsUsed := s₂.slotsUsed }
      rw [State.setFrames_self ht]
    subst hg
    refine Or.inl ⟨v, ⟨(({ U with heap := s₂.heap, slotsUsed := s₂.slotsUsed } : State).setVm s₂.vm), Ls ++ L, c0 + mc, s0 + ms⟩,
      ⟨X.admits, X.cas, X.clock, X.frames, X.room, X.hears, X.method, X.code, (X.here.setHeapUsed s₂.heap s₂.slotsUsed).setVm hW'.alike, X.tail, State.WarmedH.trans X.warmed hW', X.limits, X.bytes, X.same.trans (hsame.setVm s.vm)⟩,
      ⟨g, mk, s₂, L, rfl, rfl, hqc, rfl, hL, rfl, rfl⟩, ?_⟩
    show Steps p.tables e below _ ((({ U with heap := s₂.heap, slotsUsed := s₂.slotsUsed } : State).setVm s₂.vm).setTop { g with pc := g.pc + len₂, stack := v.toList ++ g.stack })
    rw [← hs₂]
    exact hsteps
  · obtain ⟨e2, q2, q3, q4, q5, q6⟩ := id hsm
    have e3 : s₂ = ({ (U.calling g mk a).setFrames s₂.frames with heap := s₂.heap, slotsUsed := s₂.slotsUsed } : State).setVm s₂.vm := by
      have : s₂ = ({ s₂ with vm := (U.calling g mk a).vm } : State).setVm s₂.vm := rfl
      rw [e2] at this
      exact this
    have hf₂ : s₂.frames = .throwing q :: .java g :: U.frames.tail := hend
    have hW' : U.WarmedH s₂.vm := hW₂
    have hs₂ : s₂ = ((({ U with heap := s₂.heap, slotsUsed := s₂.slotsUsed } : State).setVm s₂.vm).setTop g).pushFrame (.throwing q) := by
      refine e3.trans ?_
      rw [hf₂, State.calling_eq h.top, State.setFrames_setFrames, State.pushFrame, State.frames_setTop _ hr', State.setTop_of_frames _ hr', State.setFrames_setFrames, hr]
      rfl
    have hsame : U.sameButNew ({ U with heap := s₂.heap, slotsUsed := s₂.slotsUsed } : State) L mc ms := by
      refine ⟨?_, q2, q3, q4, q5, q6⟩
      obtain ⟨t, ht, -⟩ := State.frames_cons hr
      show ({ U with heap := s₂.heap, slotsUsed := s₂.slotsUsed } : State) = { U.setFrames U.frames with heap := s₂.heap, slotsUsed := s₂.slotsUsed }
      rw [State.setFrames_self ht]
    subst hg
    refine Or.inr ⟨q, ⟨(({ U with heap := s₂.heap, slotsUsed := s₂.slotsUsed } : State).setVm s₂.vm), Ls ++ L, c0 + mc, s0 + ms⟩,
      ⟨X.admits, X.cas, X.clock, X.frames, X.room, X.hears, X.method, X.code, (X.here.setHeapUsed s₂.heap s₂.slotsUsed).setVm hW'.alike, X.tail, State.WarmedH.trans X.warmed hW', X.limits, X.bytes, X.same.trans (hsame.setVm s.vm)⟩,
      ⟨g, mk, s₂, L, E, ce, rfl, rfl, hx, hce, hcv, hcl, rfl, hL, rfl, rfl⟩, ?_⟩
    show Steps p.tables e below _ (((({ U with heap := s₂.heap, slotsUsed := s₂.slotsUsed } : State).setVm s₂.vm).setTop g).pushFrame (.throwing q))
    rw [← hs₂]
    exact hsteps
end Payer
section Calls
variable {p : Program} {l : Launch} {e : Env} {R : Room} {s : State} {m : MethodId} {args : Array Value} {below : List Frame} {meth : Method} {c : Code} {T : State} {locs : List Loc} {cells slots : Nat}
theorem vx_callV (X : Stand p l e R s m args below meth c T locs cells slots) (hexec : p.tables.exec = Jvm.exec) {own C : String} {index : Nat} {y : MethodName} {bytes : ByteArray} {maxL : Nat} {ret : Option FieldType}
    (hown : s.vm.findClass own = some m.cls) (hlink : (Cond.methodLink own index y).before args s = true) (hinst : (Cond.instanceMethod y).before args s = true) (hsel : (Cond.selects C y y).before args s = true)
    (hcode : (Cond.code y bytes maxL ret).before args s = true) (hy : y.cls ≠ "java/lang/invoke/MethodHandle" ∧ y.cls ≠ "java/lang/invoke/VarHandle")
    {W9 : Nat} {Pre : Pt → Array Value → Prop} {Post : Pt → Array Value → Option Value → Pt → Prop} {PostX : Pt → Array Value → Addr → Pt → Prop} (hK : vx_Back l R p e below s args y 3 W9 Pre Post PostX)
    {b : Addr} {cellB : Cell} (hcell : T.heap[b]? = some cellB) (hobj : cellB.vm.isStatics = false) (hcls : s.vm.findClass C = some cellB.cls)
    {g : JFrame} (hg : g.method = m) (hsize : g.locals.size = c.maxLocals) {argsL rest : List Value} (hlen : ∀ sig, parseMethodDescriptor y.desc = some sig → argsL.length = sig.parameters.length)
    (hstack : g.stack = argsL.reverse ++ .ref b :: rest) (hW : 2 * g.monitorRoom + (rest.map fun v => v.category).sum ≤ W9) (hdg : decode c.code g.pc = .ok (.invokevirtual index, 3))
    (hpre : ∀ vm₁, s.WarmedH vm₁ → Pre ⟨T.setVm vm₁, locs, cells, slots⟩ (Value.ref b :: argsL).toArray) :
    (∃ (v : Option Value) (vm₁ : Vm) (B : Pt), s.WarmedH vm₁ ∧ Stand p l e R s m args below meth c B.U B.locs B.cells B.slots ∧ Post ⟨T.setVm vm₁, locs, cells, slots⟩ (Value.ref b :: argsL).toArray v B ∧
      ∀ target, Steps p.tables e below (B.U.setTop { g with pc := g.pc + 3, stack := v.toList ++ rest }) target → Steps p.tables e below (T.setTop g) target) ∨
    (∃ (q : Addr) (vm₁ : Vm) (B : Pt), s.WarmedH vm₁ ∧ Stand p l e R s m args below meth c B.U B.locs B.cells B.slots ∧ PostX ⟨T.setVm vm₁, locs, cells, slots⟩ (Value.ref b :: argsL).toArray q B ∧
      Steps p.tables e below (T.setTop g) ((B.U.setTop { g with stack := rest }).pushFrame (.throwing q))) := by
  obtain ⟨mk, methM, hnamed, hmethM, hstM, habM⟩ := Cond.instanceMethod_spec hinst
  obtain ⟨methM', cM, hmethM', -, -, -, -, -, -, hsigM⟩ := Cond.code_spec hnamed hcode
  cases hmethM.symm.trans hmethM'
  obtain ⟨c2, r2, m2, q1, q2, q3, q4, kP, hkP, hkPi⟩ := Cond.selects_spec hsel
  cases hcls.symm.trans q1
  cases (State.methodFound?_of_named hnamed hy).symm.trans q2
  cases hnamed.symm.trans q3
  have hselP : selectMethod e.platform s.vm cellB.cls mk = .method mk := by rw [Launch.admits_selectMethod X.admits]; exact q4
  obtain ⟨vm₁, X₁, hstep₁⟩ := X.invokevirtual hexec hown hlink hnamed hmethM hstM hkP hkPi hy (a := b) (cell := cellB) hcell
    (fun z h => by rw [h] at hobj; cases hobj) hselP hmethM habM hkP hkPi (g := g) hg (argsL := argsL) (rest := rest) (hlen _ hsigM) hstack hdg
  rcases hK m meth c ⟨T.setVm vm₁, locs, cells, slots⟩ { g with stack := rest } (.invokevirtual index) mk (Value.ref b :: argsL).toArray X₁ hg hsize hdg hW (X₁.named hnamed) (hpre vm₁ X₁.warmed) with ⟨v, B, X', hpost, hsteps⟩ | ⟨q, B, X', hpost, hsteps⟩
  · exact Or.inl ⟨v, vm₁, B, X₁.warmed, X', hpost, fun target h => hstep₁ _ fun acts => by rw [doInvoke_state]; exact hsteps.trans h⟩
  · exact Or.inr ⟨q, vm₁, B, X₁.warmed, X', hpost, hstep₁ _ fun acts => by rw [doInvoke_state]; exact hsteps⟩
theorem vx_callS (X : Stand p l e R s m args below meth c T locs cells slots) (hexec : p.tables.exec = Jvm.exec) {own : String} {index : Nat} {y : MethodName} {bytes : ByteArray} {maxL : Nat} {ret : Option FieldType}
    (hown : s.vm.findClass own = some m.cls) (hlink : (Cond.methodLink own index y).before args s = true) (hstat : (Cond.static y).before args s = true) (hinit : (Cond.initialized y.cls).before args s = true)
    (hcode : (Cond.code y bytes maxL ret).before args s = true) (hy : y.cls ≠ "java/lang/invoke/MethodHandle" ∧ y.cls ≠ "java/lang/invoke/VarHandle")
    {W9 : Nat} {Pre : Pt → Array Value → Prop} {Post : Pt → Array Value → Option Value → Pt → Prop} {PostX : Pt → Array Value → Addr → Pt → Prop} (hK : vx_Back l R p e below s args y 3 W9 Pre Post PostX)
    {g : JFrame} (hg : g.method = m) (hsize : g.locals.size = c.maxLocals) {argsL rest : List Value} (hlen : ∀ sig, parseMethodDescriptor y.desc = some sig → argsL.length = sig.parameters.length)
    (hstack : g.stack = argsL.reverse ++ rest) (hW : 2 * g.monitorRoom + (rest.map fun v => v.category).sum ≤ W9) (hdg : decode c.code g.pc = .ok (.invokestatic index, 3))
    (hpre : ∀ vm₁, s.WarmedH vm₁ → Pre ⟨T.setVm vm₁, locs, cells, slots⟩ argsL.toArray) :
    (∃ (v : Option Value) (vm₁ : Vm) (B : Pt), s.WarmedH vm₁ ∧ Stand p l e R s m args below meth c B.U B.locs B.cells B.slots ∧ Post ⟨T.setVm vm₁, locs, cells, slots⟩ argsL.toArray v B ∧
      ∀ target, Steps p.tables e below (B.U.setTop { g with pc := g.pc + 3, stack := v.toList ++ rest }) target → Steps p.tables e below (T.setTop g) target) ∨
    (∃ (q : Addr) (vm₁ : Vm) (B : Pt), s.WarmedH vm₁ ∧ Stand p l e R s m args below meth c B.U B.locs B.cells B.slots ∧ PostX ⟨T.setVm vm₁, locs, cells, slots⟩ argsL.toArray q B ∧
      Steps p.tables e below (T.setTop g) ((B.U.setTop { g with stack := rest }).pushFrame (.throwing q))) := by
  obtain ⟨mk, hnamed⟩ := Cond.code_named hcode
  obtain ⟨methM, cM, hmethM, -, -, -, -, -, -, hsigM⟩ := Cond.code_spec hnamed hcode
  have hstatic : methM.isStatic = true := Cond.static_spec hnamed hmethM hstat
  obtain ⟨kP, hkP, -⟩ := className_of_methodNamed hnamed
  have hinitP : kP.init = .initialized := Cond.initialized_spec (findClass_of_methodNamed hnamed) hkP hinit
  obtain ⟨vm₁, X₁, hstep₁⟩ := X.invokestatic hexec hown hlink hnamed hmethM hstatic hkP hinitP hy (g := g) hg (argsL := argsL) (rest := rest) (hlen _ hsigM) hstack hdg
  rcases hK m meth c ⟨T.setVm vm₁, locs, cells, slots⟩ { g with stack := rest } (.invokestatic index) mk argsL.toArray X₁ hg hsize hdg hW (X₁.named hnamed) (hpre vm₁ X₁.warmed) with ⟨v, B, X', hpost, hsteps⟩ | ⟨q, B, X', hpost, hsteps⟩
  · exact Or.inl ⟨v, vm₁, B, X₁.warmed, X', hpost, fun target h => hstep₁ _ fun acts => by rw [doInvoke_state]; exact hsteps.trans h⟩
  · exact Or.inr ⟨q, vm₁, B, X₁.warmed, X', hpost, hstep₁ _ fun acts => by rw [doInvoke_state]; exact hsteps⟩
end Calls
theorem vx_cls {s : State} {T : State} {vm₁ : Vm} {E : String} {k : ClassId} (hW : s.WarmedH vm₁) (h : (T.setVm vm₁).vm.findClass E = some k) : s.vm.findClass E = some k := by
  have h1 : vm₁.findClass E = some k := h
  rw [hW.alike.findClass] at h1
  exact h1
/-- the method's frame g, with q thrown over it -/
def vx_W (p : Program) (l : Launch) (e : Env) (R : Room) (s : State) (m : MethodId) (args : Array Value) (below : List Frame) (meth : Method) (c : Code) (H : Heap) (locs : List Loc) (cells slots : Nat) (Q : State → Prop) (g : JFrame) (q : Addr) : Prop :=
  ∀ T : State, T.heap = H → Stand p l e R s m args below meth c T locs cells slots → ∃ t, Steps p.tables e below ((T.setTop g).pushFrame (.throwing q)) t ∧ Q t
def vx_Run (p : Program) (l : Launch) (e : Env) (R : Room) (s : State) (m : MethodId) (args : Array Value) (below : List Frame) (meth : Method) (c : Code) (H : Heap) (locs : List Loc) (cells slots mc ms : Nat) (g : JFrame) (rest : List Value) (Qa : State → Outcome → State → Prop) (XC : String → State → State → Prop) (free : Addr → Prop) : Prop :=
  ∀ T : State, T.heap = H → Stand p l e R s m args below meth c T locs cells slots →
    (∃ (v : Option Value) (st₀ t T' : State) (L : List Loc), st₀.heap = H ∧ Stand p l e R s m args below meth c T' (locs ++ L) (cells + mc) (slots + ms) ∧ (∀ q ∈ L, free q.base) ∧ T'.heap = t.heap ∧ T'.vm = t.vm ∧ Qa st₀ (.returned v) t ∧
      Goes p e below T g T' { g with pc := g.pc + 3, stack := v.toList ++ rest }) ∨
    (∃ (q : Addr) (st₀ t T' : State) (L : List Loc) (E : String) (ce : Cell), st₀.heap = H ∧ Stand p l e R s m args below meth c T' (locs ++ L) (cells + mc) (slots + ms) ∧ (∀ z ∈ L, free z.base) ∧ T'.heap = t.heap ∧ T'.vm = t.vm ∧ XC E st₀ t ∧ t.heap[q]? = some ce ∧ ce.vm = .none ∧ s.vm.findClass E = some ce.cls ∧
      Steps p.tables e below (T.setTop g) ((T'.setTop { g with stack := rest }).pushFrame (.throwing q)))
def vx_X {S : Type} (px : S → Prop) (B : String → S → State → Prop) (A : Nat → Prop) : String → State → State → Prop := fun E st t => ∃ u : S, px u ∧ B E u t ∧ va_F A st t
section Runs
variable {p : Program} {l : Launch} {e : Env} {R : Room} {s : State} {m : MethodId} {args : Array Value} {below : List Frame} {meth : Method} {c : Code} {H : Heap} {locs : List Loc} {cells slots : Nat}
variable {y : MethodName} {bytes cc : ByteArray} {maxL nL mc ms n index : Nat} {ret : Option FieldType} {ws : List Cond} {rm : Room} {Pc : Array Value → State → Prop} {Qc : Array Value → State → Outcome → State → Prop} {XC : String → State → State → Prop} {free : Addr → Prop} {Ts : List Cond} {own C : String} {b : Addr} {As rest : List Value} {g : JFrame}
theorem vx_callBack (cb : CallB R s args own index y bytes maxL ret ws rm mc ms n) (hM : vx_Met l y ws rm Pc Qc XC mc ms free) (hbl : FrameBlind Pc) : vx_Back l R p e below s args y 3 8 (PreOf R mc ms Pc) (PostOf Qc mc ms free) (vx_Post XC mc ms free) := by
  obtain ⟨hrc, hrs, hfr, hlo, hws, hcw, -, hini, -⟩ := cb
  exact vx_back (bytes := bytes) (maxL := maxL) (ret := ret) hM hbl hrc hrs hfr hlo hws hcw (fun a' U hW => word_at hW (Or.inl (by first | rfl | simp [Cond.onTables, Cond.keeps, Cond.steady])) hini)
theorem vx_runV (S : CallFix p m c cc nL s args Ts own) (hM : vx_Met l y ws rm Pc Qc XC mc ms free) (cw : CallW R s args own C index y bytes maxL ret ws rm mc ms n) (hp : PreV s H C b Pc As)
    (hg : g.method = m) (hn : As.length = n) (hsize : g.locals.size = nL) (hstack : g.stack = As.reverse ++ .ref b :: rest) (hW : 2 * g.monitorRoom + (rest.map fun v => v.category).sum ≤ 8) (hdg : decode cc g.pc = .ok (.invokevirtual index, 3)) (hf : cells + mc ≤ R.cells ∧ slots + ms ≤ R.slots) :
    vx_Run p l e R s m args below meth c H locs cells slots mc ms g rest (Qc (Value.ref b :: As).toArray) XC free := by
  have hK : vx_Back l R p e below s args y 3 8 (PreOf R mc ms Pc) (PostOf Qc mc ms free) (vx_Post XC mc ms free) := vx_callBack cw.1 hM hp.1
  obtain ⟨⟨-, -, -, -, -, -, hcode, -, hy, hlen, hl⟩, hin, hse⟩ := cw
  obtain ⟨hx, hb, hml, ho, -⟩ := S
  obtain ⟨-, ⟨cellB, hcB, hoB, hclB⟩, hPc⟩ := hp
  intro T hT X
  rcases vx_callV X hx (C := C) (bytes := bytes) (maxL := maxL) (ret := ret) ho hl hin hse hcode hy hK (by rw [hT]; exact hcB) hoB hclB hg (hsize.trans hml.symm) (argsL := As) (rest := rest) (fun sig h => hn.trans (hlen sig h)) hstack hW (by rw [hb]; exact hdg)
    (fun vm₁ hW₁ => ⟨hf.1, hf.2, hPc (T.setVm vm₁) hT hW₁⟩) with ⟨v, vm₁, ⟨U', l2, c2, s2⟩, hW₁, X', ⟨g', mk, t, L, e1, e2, hq, h1, hL, h2, h3⟩, st⟩ | ⟨q, vm₁, ⟨U', l2, c2, s2⟩, hW₁, X', ⟨g', mk, t, L, E, ce, e1, e2, hq, hce, hcv, hcl, h1, hL, h2, h3⟩, st⟩
  · dsimp only [Pt.U, Pt.locs, Pt.cells, Pt.slots] at X' e1 e2 h1 h2 h3 st
    subst h1; subst h2; subst h3
    exact Or.inl ⟨v, (T.setVm vm₁).calling g' mk (Value.ref b :: As).toArray, t, U', L, hT, X', hL, e1, e2, hq, st⟩
  · dsimp only [Pt.U, Pt.locs, Pt.cells, Pt.slots] at X' e1 e2 h1 h2 h3 st hcl
    subst h1; subst h2; subst h3
    exact Or.inr ⟨q, (T.setVm vm₁).calling g' mk (Value.ref b :: As).toArray, t, U', L, E, ce, hT, X', hL, e1, e2, hq, hce, hcv, vx_cls hW₁ hcl, st⟩
theorem vx_runS (S : CallFix p m c cc nL s args Ts own) (hM : vx_Met l y ws rm Pc Qc XC mc ms free) (cw : CallB R s args own index y bytes maxL ret ws rm mc ms n ∧ (Cond.static y).before args s = true) (hp : PreS s H Pc As)
    (hg : g.method = m) (hn : As.length = n) (hsize : g.locals.size = nL) (hstack : g.stack = As.reverse ++ rest) (hW : 2 * g.monitorRoom + (rest.map fun v => v.category).sum ≤ 8) (hdg : decode cc g.pc = .ok (.invokestatic index, 3)) (hf : cells + mc ≤ R.cells ∧ slots + ms ≤ R.slots) :
    vx_Run p l e R s m args below meth c H locs cells slots mc ms g rest (Qc As.toArray) XC free := by
  have hK : vx_Back l R p e below s args y 3 8 (PreOf R mc ms Pc) (PostOf Qc mc ms free) (vx_Post XC mc ms free) := vx_callBack cw.1 hM hp.1
  obtain ⟨⟨-, -, -, -, -, -, hcode, hini, hy, hlen, hl⟩, hstt⟩ := cw
  obtain ⟨hx, hb, hml, ho, -⟩ := S
  intro T hT X
  rcases vx_callS X hx (bytes := bytes) (maxL := maxL) (ret := ret) ho hl hstt hini hcode hy hK hg (hsize.trans hml.symm) (argsL := As) (rest := rest) (fun sig h => hn.trans (hlen sig h)) hstack hW (by rw [hb]; exact hdg)
    (fun vm₁ hW₁ => ⟨hf.1, hf.2, hp.2 (T.setVm vm₁) hT hW₁⟩) with ⟨v, vm₁, ⟨U', l2, c2, s2⟩, hW₁, X', ⟨g', mk, t, L, e1, e2, hq, h1, hL, h2, h3⟩, st⟩ | ⟨q, vm₁, ⟨U', l2, c2, s2⟩, hW₁, X', ⟨g', mk, t, L, E, ce, e1, e2, hq, hce, hcv, hcl, h1, hL, h2, h3⟩, st⟩
  · dsimp only [Pt.U, Pt.locs, Pt.cells, Pt.slots] at X' e1 e2 h1 h2 h3 st
    subst h1; subst h2; subst h3
    exact Or.inl ⟨v, (T.setVm vm₁).calling g' mk As.toArray, t, U', L, hT, X', hL, e1, e2, hq, st⟩
  · dsimp only [Pt.U, Pt.locs, Pt.cells, Pt.slots] at X' e1 e2 h1 h2 h3 st hcl
    subst h1; subst h2; subst h3
    exact Or.inr ⟨q, (T.setVm vm₁).calling g' mk As.toArray, t, U', L, E, ce, hT, X', hL, e1, e2, hq, hce, hcv, vx_cls hW₁ hcl, st⟩
end Runs
section Rows
variable {p : Program} {l : Launch} {e : Env} {R : Room} {s : State} {m : MethodId} {args : Array Value} {below : List Frame} {meth : Method} {c : Code} {H : Heap} {locs : List Loc} {cells slots : Nat} {Q : State → Prop}
variable {mc ms : Nat} {free : Addr → Prop} {A0 A1 : Nat → Prop} {H0 : Heap} {a : Array Value} {pc : Nat} {ls : Array Slot} {st0 rest : List Value}
theorem vx_keep {st₀ t T' : State} {L : List Loc} (h0 : st₀.heap = H) (e1 : T'.heap = t.heap) (hS : va_S A0 H0 H locs) (hA : ∀ q, q < H.size → A1 q → A0 q) (hf : ∀ q, free q → A0 q) (hL : ∀ q ∈ L, free q.base) (hF : va_F A1 st₀ t) :
    H.size ≤ T'.heap.size ∧ (∀ q : Nat, q < H.size → ¬ A1 q → T'.heap[q]? = H[q]?) ∧ va_S A0 H0 T'.heap (locs ++ L) := by
  obtain ⟨hz, hk⟩ := hF
  rw [h0] at hz hk
  exact ⟨by rw [e1]; exact hz, fun q h1 h2 => by rw [e1]; exact hk q h1 h2,
    ⟨Nat.le_trans hS.1 (by rw [e1]; exact hz), fun q h1 h2 => by rw [e1, hk q (Nat.lt_of_lt_of_le h1 hS.1) (fun z => h2 (hA q (Nat.lt_of_lt_of_le h1 hS.1) z))]; exact hS.2.1 q h1 h2, fun q hq => by
      rcases List.mem_append.mp hq with h | h
      · exact hS.2.2 q h
      · exact hf _ (hL q h)⟩⟩
theorem vx_calli {S SX : Type} {post : Int32 → S → Prop} {px : SX → Prop} {B : S → State → Prop} {BX : String → SX → State → Prop} {AX : Nat → Prop} (hr : vx_Run p l e R s m args below meth c H locs cells slots mc ms (F0 m pc ls st0) rest (va_Qi post B A1 a) (vx_X px BX AX) free) (hS : va_S A0 H0 H locs) (hA : ∀ q, q < H.size → A1 q → A0 q) (hf : ∀ q, free q → A0 q) (hAX : ∀ q, q < H.size → AX q → A0 q)
    (kx : ∀ (E : String) (ce : Cell) (q9 : Addr) (u : SX) (t : State) (H1 : Heap) (locs1 : List Loc), t.heap = H1 → s.vm.Alike t.vm → px u → BX E u t → H.size ≤ H1.size → (∀ q : Nat, q < H.size → ¬ AX q → H1[q]? = H[q]?) → va_S A0 H0 H1 locs1 → H1[q9]? = some ce → ce.vm = .none → s.vm.findClass E = some ce.cls → vx_W p l e R s m args below meth c H1 locs1 (cells + mc) (slots + ms) Q (F0 m pc ls rest) q9)
    (kk : ∀ (r : Int32) (u : S) (t : State) (H1 : Heap) (locs1 : List Loc), t.heap = H1 → s.vm.Alike t.vm → post r u → B u t → H.size ≤ H1.size → (∀ q : Nat, q < H.size → ¬ A1 q → H1[q]? = H[q]?) → va_S A0 H0 H1 locs1 → W p l e R s m args below meth c H1 locs1 (cells + mc) (slots + ms) Q (F0 m (pc + 3) ls (.int r :: rest))) : W p l e R s m args below meth c H locs cells slots Q (F0 m pc ls st0) := by
  intro T hT X
  rcases hr T hT X with ⟨v, st₀, t, T', L, h0, X', hL, e1, e2, ⟨⟨r, u, hv, hp, hb⟩, hF⟩, st⟩ | ⟨q, st₀, t, T', L, E, ce, h0, X', hL, e1, e2, ⟨u, hp, hb, hF⟩, hce, hcv, hcl, st⟩
  · cases hv
    obtain ⟨k1, k2, k3⟩ := vx_keep h0 e1 hS hA hf hL hF
    obtain ⟨t2, a1, b1⟩ := kk r u t T'.heap (locs ++ L) e1.symm (by rw [← e2]; exact X'.warmed.alike) hp hb k1 k2 k3 T' rfl X'
    exact ⟨t2, st t2 a1, b1⟩
  · obtain ⟨k1, k2, k3⟩ := vx_keep h0 e1 hS hAX hf hL hF
    obtain ⟨t2, a1, b1⟩ := kx E ce q u t T'.heap (locs ++ L) e1.symm (by rw [← e2]; exact X'.warmed.alike) hp hb k1 k2 k3 (by rw [e1]; exact hce) hcv hcl T' rfl X'
    exact ⟨t2, st.trans a1, b1⟩
theorem vx_calll {S SX : Type} {post : Int64 → S → Prop} {px : SX → Prop} {B : S → State → Prop} {BX : String → SX → State → Prop} {AX : Nat → Prop} (hr : vx_Run p l e R s m args below meth c H locs cells slots mc ms (F0 m pc ls st0) rest (va_Ql post B A1 a) (vx_X px BX AX) free) (hS : va_S A0 H0 H locs) (hA : ∀ q, q < H.size → A1 q → A0 q) (hf : ∀ q, free q → A0 q) (hAX : ∀ q, q < H.size → AX q → A0 q)
    (kx : ∀ (E : String) (ce : Cell) (q9 : Addr) (u : SX) (t : State) (H1 : Heap) (locs1 : List Loc), t.heap = H1 → s.vm.Alike t.vm → px u → BX E u t → H.size ≤ H1.size → (∀ q : Nat, q < H.size → ¬ AX q → H1[q]? = H[q]?) → va_S A0 H0 H1 locs1 → H1[q9]? = some ce → ce.vm = .none → s.vm.findClass E = some ce.cls → vx_W p l e R s m args below meth c H1 locs1 (cells + mc) (slots + ms) Q (F0 m pc ls rest) q9)
    (kk : ∀ (r : Int64) (u : S) (t : State) (H1 : Heap) (locs1 : List Loc), t.heap = H1 → s.vm.Alike t.vm → post r u → B u t → H.size ≤ H1.size → (∀ q : Nat, q < H.size → ¬ A1 q → H1[q]? = H[q]?) → va_S A0 H0 H1 locs1 → W p l e R s m args below meth c H1 locs1 (cells + mc) (slots + ms) Q (F0 m (pc + 3) ls (.long r :: rest))) : W p l e R s m args below meth c H locs cells slots Q (F0 m pc ls st0) := by
  intro T hT X
  rcases hr T hT X with ⟨v, st₀, t, T', L, h0, X', hL, e1, e2, ⟨⟨r, u, hv, hp, hb⟩, hF⟩, st⟩ | ⟨q, st₀, t, T', L, E, ce, h0, X', hL, e1, e2, ⟨u, hp, hb, hF⟩, hce, hcv, hcl, st⟩
  · cases hv
    obtain ⟨k1, k2, k3⟩ := vx_keep h0 e1 hS hA hf hL hF
    obtain ⟨t2, a1, b1⟩ := kk r u t T'.heap (locs ++ L) e1.symm (by rw [← e2]; exact X'.warmed.alike) hp hb k1 k2 k3 T' rfl X'
    exact ⟨t2, st t2 a1, b1⟩
  · obtain ⟨k1, k2, k3⟩ := vx_keep h0 e1 hS hAX hf hL hF
    obtain ⟨t2, a1, b1⟩ := kx E ce q u t T'.heap (locs ++ L) e1.symm (by rw [← e2]; exact X'.warmed.alike) hp hb k1 k2 k3 (by rw [e1]; exact hce) hcv hcl T' rfl X'
    exact ⟨t2, st.trans a1, b1⟩
theorem vx_callf {S SX : Type} {post : UInt32 → S → Prop} {px : SX → Prop} {B : S → State → Prop} {BX : String → SX → State → Prop} {AX : Nat → Prop} (hr : vx_Run p l e R s m args below meth c H locs cells slots mc ms (F0 m pc ls st0) rest (va_Qf post B A1 a) (vx_X px BX AX) free) (hS : va_S A0 H0 H locs) (hA : ∀ q, q < H.size → A1 q → A0 q) (hf : ∀ q, free q → A0 q) (hAX : ∀ q, q < H.size → AX q → A0 q)
    (kx : ∀ (E : String) (ce : Cell) (q9 : Addr) (u : SX) (t : State) (H1 : Heap) (locs1 : List Loc), t.heap = H1 → s.vm.Alike t.vm → px u → BX E u t → H.size ≤ H1.size → (∀ q : Nat, q < H.size → ¬ AX q → H1[q]? = H[q]?) → va_S A0 H0 H1 locs1 → H1[q9]? = some ce → ce.vm = .none → s.vm.findClass E = some ce.cls → vx_W p l e R s m args below meth c H1 locs1 (cells + mc) (slots + ms) Q (F0 m pc ls rest) q9)
    (kk : ∀ (r : UInt32) (u : S) (t : State) (H1 : Heap) (locs1 : List Loc), t.heap = H1 → s.vm.Alike t.vm → post r u → B u t → H.size ≤ H1.size → (∀ q : Nat, q < H.size → ¬ A1 q → H1[q]? = H[q]?) → va_S A0 H0 H1 locs1 → W p l e R s m args below meth c H1 locs1 (cells + mc) (slots + ms) Q (F0 m (pc + 3) ls (.float r :: rest))) : W p l e R s m args below meth c H locs cells slots Q (F0 m pc ls st0) := by
  intro T hT X
  rcases hr T hT X with ⟨v, st₀, t, T', L, h0, X', hL, e1, e2, ⟨⟨r, u, hv, hp, hb⟩, hF⟩, st⟩ | ⟨q, st₀, t, T', L, E, ce, h0, X', hL, e1, e2, ⟨u, hp, hb, hF⟩, hce, hcv, hcl, st⟩
  · cases hv
    obtain ⟨k1, k2, k3⟩ := vx_keep h0 e1 hS hA hf hL hF
    obtain ⟨t2, a1, b1⟩ := kk r u t T'.heap (locs ++ L) e1.symm (by rw [← e2]; exact X'.warmed.alike) hp hb k1 k2 k3 T' rfl X'
    exact ⟨t2, st t2 a1, b1⟩
  · obtain ⟨k1, k2, k3⟩ := vx_keep h0 e1 hS hAX hf hL hF
    obtain ⟨t2, a1, b1⟩ := kx E ce q u t T'.heap (locs ++ L) e1.symm (by rw [← e2]; exact X'.warmed.alike) hp hb k1 k2 k3 (by rw [e1]; exact hce) hcv hcl T' rfl X'
    exact ⟨t2, st.trans a1, b1⟩
theorem vx_calld {S SX : Type} {post : UInt64 → S → Prop} {px : SX → Prop} {B : S → State → Prop} {BX : String → SX → State → Prop} {AX : Nat → Prop} (hr : vx_Run p l e R s m args below meth c H locs cells slots mc ms (F0 m pc ls st0) rest (va_Qd post B A1 a) (vx_X px BX AX) free) (hS : va_S A0 H0 H locs) (hA : ∀ q, q < H.size → A1 q → A0 q) (hf : ∀ q, free q → A0 q) (hAX : ∀ q, q < H.size → AX q → A0 q)
    (kx : ∀ (E : String) (ce : Cell) (q9 : Addr) (u : SX) (t : State) (H1 : Heap) (locs1 : List Loc), t.heap = H1 → s.vm.Alike t.vm → px u → BX E u t → H.size ≤ H1.size → (∀ q : Nat, q < H.size → ¬ AX q → H1[q]? = H[q]?) → va_S A0 H0 H1 locs1 → H1[q9]? = some ce → ce.vm = .none → s.vm.findClass E = some ce.cls → vx_W p l e R s m args below meth c H1 locs1 (cells + mc) (slots + ms) Q (F0 m pc ls rest) q9)
    (kk : ∀ (r : UInt64) (u : S) (t : State) (H1 : Heap) (locs1 : List Loc), t.heap = H1 → s.vm.Alike t.vm → post r u → B u t → H.size ≤ H1.size → (∀ q : Nat, q < H.size → ¬ A1 q → H1[q]? = H[q]?) → va_S A0 H0 H1 locs1 → W p l e R s m args below meth c H1 locs1 (cells + mc) (slots + ms) Q (F0 m (pc + 3) ls (.double r :: rest))) : W p l e R s m args below meth c H locs cells slots Q (F0 m pc ls st0) := by
  intro T hT X
  rcases hr T hT X with ⟨v, st₀, t, T', L, h0, X', hL, e1, e2, ⟨⟨r, u, hv, hp, hb⟩, hF⟩, st⟩ | ⟨q, st₀, t, T', L, E, ce, h0, X', hL, e1, e2, ⟨u, hp, hb, hF⟩, hce, hcv, hcl, st⟩
  · cases hv
    obtain ⟨k1, k2, k3⟩ := vx_keep h0 e1 hS hA hf hL hF
    obtain ⟨t2, a1, b1⟩ := kk r u t T'.heap (locs ++ L) e1.symm (by rw [← e2]; exact X'.warmed.alike) hp hb k1 k2 k3 T' rfl X'
    exact ⟨t2, st t2 a1, b1⟩
  · obtain ⟨k1, k2, k3⟩ := vx_keep h0 e1 hS hAX hf hL hF
    obtain ⟨t2, a1, b1⟩ := kx E ce q u t T'.heap (locs ++ L) e1.symm (by rw [← e2]; exact X'.warmed.alike) hp hb k1 k2 k3 (by rw [e1]; exact hce) hcv hcl T' rfl X'
    exact ⟨t2, st.trans a1, b1⟩
theorem vx_callv {S SX : Type} {post : S → Prop} {px : SX → Prop} {B : S → State → Prop} {BX : String → SX → State → Prop} {AX : Nat → Prop} (hr : vx_Run p l e R s m args below meth c H locs cells slots mc ms (F0 m pc ls st0) rest (va_Qv post B A1 a) (vx_X px BX AX) free) (hS : va_S A0 H0 H locs) (hA : ∀ q, q < H.size → A1 q → A0 q) (hf : ∀ q, free q → A0 q) (hAX : ∀ q, q < H.size → AX q → A0 q)
    (kx : ∀ (E : String) (ce : Cell) (q9 : Addr) (u : SX) (t : State) (H1 : Heap) (locs1 : List Loc), t.heap = H1 → s.vm.Alike t.vm → px u → BX E u t → H.size ≤ H1.size → (∀ q : Nat, q < H.size → ¬ AX q → H1[q]? = H[q]?) → va_S A0 H0 H1 locs1 → H1[q9]? = some ce → ce.vm = .none → s.vm.findClass E = some ce.cls → vx_W p l e R s m args below meth c H1 locs1 (cells + mc) (slots + ms) Q (F0 m pc ls rest) q9)
    (kk : ∀ (u : S) (t : State) (H1 : Heap) (locs1 : List Loc), t.heap = H1 → s.vm.Alike t.vm → post u → B u t → H.size ≤ H1.size → (∀ q : Nat, q < H.size → ¬ A1 q → H1[q]? = H[q]?) → va_S A0 H0 H1 locs1 → W p l e R s m args below meth c H1 locs1 (cells + mc) (slots + ms) Q (F0 m (pc + 3) ls (rest))) : W p l e R s m args below meth c H locs cells slots Q (F0 m pc ls st0) := by
  intro T hT X
  rcases hr T hT X with ⟨v, st₀, t, T', L, h0, X', hL, e1, e2, ⟨⟨u, hv, hp, hb⟩, hF⟩, st⟩ | ⟨q, st₀, t, T', L, E, ce, h0, X', hL, e1, e2, ⟨u, hp, hb, hF⟩, hce, hcv, hcl, st⟩
  · cases hv
    obtain ⟨k1, k2, k3⟩ := vx_keep h0 e1 hS hA hf hL hF
    obtain ⟨t2, a1, b1⟩ := kk u t T'.heap (locs ++ L) e1.symm (by rw [← e2]; exact X'.warmed.alike) hp hb k1 k2 k3 T' rfl X'
    exact ⟨t2, st t2 a1, b1⟩
  · obtain ⟨k1, k2, k3⟩ := vx_keep h0 e1 hS hAX hf hL hF
    obtain ⟨t2, a1, b1⟩ := kx E ce q u t T'.heap (locs ++ L) e1.symm (by rw [← e2]; exact X'.warmed.alike) hp hb k1 k2 k3 (by rw [e1]; exact hce) hcv hcl T' rfl X'
    exact ⟨t2, st.trans a1, b1⟩
/-- caught by the row x of this method's table; the rows ahead don't take it -/
theorem vx_catch {own name : String} {E : String} {ce : Cell} {q : Addr} (hown : s.vm.findClass own = some m.cls) (pre : List ExceptionTableEntry) (x : ExceptionTableEntry) (suf : List ExceptionTableEntry) (hsplit : c.exceptionTable.toList = pre ++ x :: suf)
    (hpass : ∀ z ∈ pre, covers z pc = false ∨ (z.catchType ≠ 0 ∧ ∃ nm : String, (Cond.classLink own z.catchType nm).before args s = true ∧ va_Nc E nm s)) (hx : covers x pc = true) (h0 : x.catchType ≠ 0)
    (hlink : (Cond.classLink own x.catchType name).before args s = true) (hcast : (Cond.castable E name).before args s = true) (hcell : H[q]? = some ce) (hv : ce.vm = .none) (hcl : s.vm.findClass E = some ce.cls)
    (kk : W p l e R s m args below meth c H locs cells slots Q (F0 m x.handlerPc ls [.ref q])) : vx_W p l e R s m args below meth c H locs cells slots Q (F0 m pc ls rest) q := by
  intro T hT X
  have hpl : e.platform.magicAccessors = ({} : Platform).magicAccessors := by rw [X.admits.platform]
  obtain ⟨c3, c4, hc3, hc4, hasg⟩ := Cond.castable_spec hcast
  cases Option.some.inj (hc3.symm.trans hcl)
  obtain ⟨c5, hc5, hcl5⟩ := Cond.classLink_spec hown hlink e.platform hpl
  cases Option.some.inj (hc4.symm.trans hc5)
  obtain ⟨vm', X', st⟩ := X.thenCaughtThrough q (g := F0 m pc ls rest) rfl (Steps.refl _) (by rw [hT]; exact hcell) (by rw [hv]; rfl) (by obtain ⟨k9, h9, -⟩ := Vm.findClass_spec hcl; exact ⟨k9, h9⟩) pre x suf hsplit
    (fun z hz => by
      rcases hpass z hz with h | ⟨hz0, nm, hl1, hn1⟩
      · exact Or.inl h
      · obtain ⟨c6, hc6, hcl6⟩ := Cond.classLink_spec hown hl1 e.platform hpl
        obtain ⟨a8, b8, h1, h2, h3⟩ := hn1
        cases Option.some.inj (h1.symm.trans hcl)
        cases Option.some.inj (h2.symm.trans hc6)
        exact Or.inr ⟨hz0, _, hcl6, h3⟩) hx (Or.inr ⟨h0, c4, hcl5, hasg⟩)
  obtain ⟨t, a1, b1⟩ := kk (T.setVm vm') hT X'
  exact ⟨t, st.trans a1, b1⟩
end Rows
section Ends
variable {p : Program} {l : Launch} {e : Env} {R : Room} {s : State} {m : MethodId} {args : Array Value} {below : List Frame} {meth : Method} {c : Code} {H : Heap} {locs : List Loc} {cells slots : Nat} {Q : State → Prop}
variable {mc ms : Nat} {free : Addr → Prop} {A0 A1 : Nat → Prop} {H0 : Heap} {a : Array Value} {ls : Array Slot} {st0 rest : List Value}
variable {Qc : Array Value → State → Outcome → State → Prop} {XC : String → State → State → Prop}
/-- what a body that may throw owes at its end -/
def vx_MQ (below : List Frame) (Qc : Array Value → State → Outcome → State → Prop) (XC : String → State → State → Prop) (a : Array Value) (s : State) (mc ms : Nat) (free : Addr → Prop) : State → Prop := fun t =>
  ∃ o, t.status = .running ∧ Ended t below o ∧ vx_Q Qc XC mc ms free a s o t
theorem vx_ret {g : JFrame} {mc ms : Nat} (k : W p l e R s m args below meth c H locs cells slots (MQ below Qc args s mc ms free) g) : W p l e R s m args below meth c H locs cells slots (vx_MQ below Qc XC args s mc ms free) g := by
  intro T hT X
  obtain ⟨t, a1, o, b1, b2, b3, b4⟩ := k T hT X
  exact ⟨t, a1, o, b1, b2, Or.inl ⟨b3, b4⟩⟩
/-- not caught here: it goes on to the caller -/
theorem vx_widen {g : JFrame} {q : Addr} {k n : Nat} (h1 : cells ≤ k) (h2 : slots ≤ n) (kk : vx_W p l e R s m args below meth c H locs k n Q g q) : vx_W p l e R s m args below meth c H locs cells slots Q g q := fun T hT X => kk T hT (stand_widen X h1 h2)
theorem vx_out {pc : Nat} {E : String} {ce : Cell} {q : Addr} {mc ms : Nat} (hout : ∀ x ∈ c.exceptionTable.toList, covers x pc = false) (hlocks : meth.locks = false) (hcell : H[q]? = some ce) (hv : ce.vm = .none) (hcl : s.vm.findClass E = some ce.cls)
    (hx : ∀ t : State, t.heap = H → s.vm.Alike t.vm → XC E s t) (hf : ∀ z ∈ locs, free z.base) (hc : cells ≤ mc) (hs : slots ≤ ms) :
    vx_W p l e R s m args below meth c H locs cells slots (vx_MQ below Qc XC args s mc ms free) (F0 m pc ls rest) q := by
  intro T hT X
  obtain ⟨st1, hrun, hend, hW, hsm⟩ := X.leaveThrown q (g := F0 m pc ls rest) rfl rfl rfl hout hlocks
  have hcell9 : (T.setFrames (.throwing q :: below)).heap[q]? = some ce := by
    show T.heap[q]? = some ce
    rw [hT]; exact hcell
  exact ⟨_, st1, .threw q, hrun, hend, Or.inr ⟨q, rfl, E, ce, locs, hx _ hT hW.alike, hcell9, hv, hcl, hW, hsm.mono hc hs, hf⟩⟩
theorem vx_frame {U : State} {k n : Nat} (h : s.sameButNew ({ U with vm := s.vm } : State) locs k n) : s.heap.size ≤ U.heap.size ∧ ∀ q : Nat, q < s.heap.size → (∀ z ∈ locs, z.base ≠ q) → U.heap[q]? = s.heap[q]? := by
  obtain ⟨-, h2, -, -, -, h6⟩ := h
  refine ⟨h2, fun q hq hz => ?_⟩
  obtain ⟨c9, e1, e2, e3, e4⟩ := h6 q _ (Array.getElem?_eq_getElem hq)
  have hs : c9.slots = (s.heap[q]).slots := Array.ext_getElem? fun i => e4 i fun hm => hz _ hm rfl
  have h9 : c9 = s.heap[q] := by
    rw [hs] at e2
    exact e2
  have e5 : U.heap[q]? = some c9 := e1
  rw [e5, h9, Array.getElem?_eq_getElem hq]
/-- the words of a throw but the four that speak of the heap -/
def vx_no (w : Cond) : Bool := decide (w ≠ .isRef (.static Bundle.tN "UNASSIGNED_STACK" Bundle.steD)) && decide (w ≠ .isRef (.static Bundle.tN "SUPPRESSED_SENTINEL" Bundle.listD)) && decide (w ≠ .laysStatic Bundle.tN "UNASSIGNED_STACK" Bundle.steD) && decide (w ≠ .laysStatic Bundle.tN "SUPPRESSED_SENTINEL" Bundle.listD)
def vx_at0 (own : String) (ic : Nat) (X : String) (names : List String) : List Cond := (Bundle.ownAtoms0 own ic X names).filter vx_no
def vx_atS (own : String) (ic : Nat) (X : String) (names : List String) : List Cond := (Bundle.ownAtoms own ic X names).filter vx_no
/-- a word that the tables alone decide, or a good one -/
def vx_ot (w : Cond) : Bool := w.onTables || goodWord w
theorem vx_ot_at {args a' : Array Value} {s U : State} {w : Cond} (hW : s.WarmedH U.vm) (hvm : s.vm = U.vm) (hg : vx_ot w = true) (h : w.before args s = true) : w.before a' U = true := by
  simp only [vx_ot, Bool.or_eq_true] at hg
  rcases hg with hg | hg
  · exact va_tabs hg hvm h
  · exact word_at hW (good_of_word hg) h
/-- a list's words: the good ones out of the method's own list, the others by premises of their own -/
theorem vx_hat {args : Array Value} {s : State} {L B : List Cond} (h1 : ∀ w ∈ L.filter goodWord, w.before args s = true) (h2 : ∀ w ∈ L.filter (fun w => !goodWord w), w ∈ B) (h3 : ∀ w ∈ B, w.before args s = true) : ∀ w ∈ L, w.before args s = true := by
  intro w hw
  by_cases g : goodWord w = true
  · exact h1 w (List.mem_filter.mpr ⟨hw, g⟩)
  · refine h3 w (h2 w (List.mem_filter.mpr ⟨hw, ?_⟩))
    show (!goodWord w) = true
    cases hgw : goodWord w
    · rfl
    · exact absurd hgw g
theorem vx_c {args : Array Value} {s : State} {w : Cond} {B : List Cond} (h : w.before args s = true) (t : ∀ w ∈ B, w.before args s = true) : ∀ w' ∈ w :: B, w'.before args s = true := fun w' h' => (List.mem_cons.mp h').elim (fun e => by rw [e]; exact h) (t w')
theorem vx_n {args : Array Value} {s : State} : ∀ w ∈ ([] : List Cond), w.before args s = true := fun _ h => nomatch h
theorem vx_own {args : Array Value} {s : State} {L : List Cond} (h1 : ∀ w ∈ L.filter vx_no, w.before args s = true)
    (hU : (Cond.isRef (.static Bundle.tN "UNASSIGNED_STACK" Bundle.steD)).before args s = true) (hN : (Cond.isRef (.static Bundle.tN "SUPPRESSED_SENTINEL" Bundle.listD)).before args s = true)
    (lU : (Cond.laysStatic Bundle.tN "UNASSIGNED_STACK" Bundle.steD).before args s = true) (lN : (Cond.laysStatic Bundle.tN "SUPPRESSED_SENTINEL" Bundle.listD).before args s = true) : ∀ w ∈ L, w.before args s = true := by
  intro w hw
  by_cases e1 : w = .isRef (.static Bundle.tN "UNASSIGNED_STACK" Bundle.steD)
  · rw [e1]; exact hU
  · by_cases e2 : w = .isRef (.static Bundle.tN "SUPPRESSED_SENTINEL" Bundle.listD)
    · rw [e2]; exact hN
    · by_cases e3 : w = .laysStatic Bundle.tN "UNASSIGNED_STACK" Bundle.steD
      · rw [e3]; exact lU
      · by_cases e4 : w = .laysStatic Bundle.tN "SUPPRESSED_SENTINEL" Bundle.listD
        · rw [e4]; exact lN
        · exact h1 w (List.mem_filter.mpr ⟨hw, by unfold vx_no; rw [decide_eq_true e1, decide_eq_true e2, decide_eq_true e3, decide_eq_true e4]; rfl⟩)
/-- where a static field lies, its class's statics cell in H -/
def vx_L (C n d : String) (A : Nat → Prop) (U : State) (H : Heap) : Prop := ∃ (c : ClassId) (k : Class) (i : Nat) (f : Field) (a : Nat) (cell : Cell), U.vm.findClass C = some c ∧ U.fieldFound? C n d = some (c, k, i, f) ∧ f.isStatic = true ∧ k.statics = some a ∧ H[a]? = some cell ∧ cell.vm.isStatics = true ∧ cell.cls = c ∧ f.slot < cell.slots.size ∧ k.staticTypes[f.slot]? = some f.type ∧ ¬ A a
theorem vx_L.moved {C n d : String} {A : Nat → Prop} {u U : State} {H : Heap} (hvm : u.vm.Alike U.vm) (h : vx_L C n d A u H) : vx_L C n d A U H := by
  obtain ⟨c, k, i, f, a, cell, h1, h2, h3, h4, h5, h6, h7, h8, h9, h10⟩ := h
  obtain ⟨k', hi', he⟩ := State.fieldFound?_setVm hvm h2
  exact ⟨c, k', i, f, a, cell, by rw [hvm.findClass]; exact h1, hi', h3, by rw [he]; exact h4, h5, h6, h7, h8, by rw [he]; exact h9, h10⟩
theorem vx_L.kept {C n d : String} {A : Nat → Prop} {U : State} {H H1 : Heap} (h : vx_L C n d A U H) (hq : ∀ a : Nat, a < H.size → ¬ A a → H1[a]? = H[a]?) : vx_L C n d A U H1 := by
  obtain ⟨c, k, i, f, a, cell, h1, h2, h3, h4, h5, h6, h7, h8, h9, h10⟩ := h
  exact ⟨c, k, i, f, a, cell, h1, h2, h3, h4, by rw [hq a (Array.getElem?_eq_some_iff.mp h5).1 h10]; exact h5, h6, h7, h8, h9, h10⟩
theorem vx_L.narrow {C n d : String} {A B : Nat → Prop} {U : State} {H : Heap} (h : vx_L C n d A U H) (hAB : ∀ q, B q → A q) : vx_L C n d B U H := by
  obtain ⟨c, k, i, f, a, cell, h1, h2, h3, h4, h5, h6, h7, h8, h9, h10⟩ := h
  exact ⟨c, k, i, f, a, cell, h1, h2, h3, h4, h5, h6, h7, h8, h9, fun z => h10 (hAB _ z)⟩
theorem vx_L.word {C n d : String} {A : Nat → Prop} {s : State} {args : Array Value} (h : vx_L C n d A s s.heap) : (Cond.laysStatic C n d).before args s = true := by
  obtain ⟨c, k, i, f, a, cell, h1, h2, h3, h4, h5, h6, h7, h8, h9, -⟩ := h
  show (Cond.laysStatic C n d).holds args s none s [] = true
  exact Cond.laysStatic_of h1 h2 h3 h4 h5 h6 h7 h8 h9
/-- .. and what it holds: null or some reference -/
def vx_Zq (C n d : String) (A : Nat → Prop) (U : State) (H : Heap) : Prop := va_Zq C n d A U H ∧ vx_L C n d A U H
theorem vx_Zq.moved {C n d : String} {A : Nat → Prop} {u U : State} {H : Heap} (hvm : u.vm.Alike U.vm) (h : vx_Zq C n d A u H) : vx_Zq C n d A U H := ⟨va_Zq.moved hvm h.1, vx_L.moved hvm h.2⟩
theorem vx_Zq.kept {C n d : String} {A : Nat → Prop} {U : State} {H H1 : Heap} (h : vx_Zq C n d A U H) (hq : ∀ a : Nat, a < H.size → ¬ A a → H1[a]? = H[a]?) : vx_Zq C n d A U H1 := ⟨va_Zq.kept h.1 hq, vx_L.kept h.2 hq⟩
theorem vx_Zq.narrow {C n d : String} {A B : Nat → Prop} {U : State} {H : Heap} (h : vx_Zq C n d A U H) (hAB : ∀ q, B q → A q) : vx_Zq C n d B U H := ⟨va_Zq.narrow h.1 hAB, vx_L.narrow h.2 hAB⟩
theorem vx_Zqof {args : Array Value} {s : State} {C n d : String} {A : Nat → Prop} (hl : (Cond.laysStatic C n d).before args s = true) (hini : (Cond.initialized C).before args s = true) (h : (Cond.isRef (.static C n d)).before args s = true) (hA : ∀ a : Nat, a < s.heap.size → ¬ A a) : vx_Zq C n d A s s.heap := by
  refine ⟨va_Zqof hl hini h hA, ?_⟩
  obtain ⟨c, k, i, f, a, cell, h1, h2, h3, h4, h5, h6, h7, h8, h9⟩ := Cond.laysStatic_spec hl
  exact ⟨c, k, i, f, a, cell, h1, h2, h3, h4, h5, h6, h7, h8, h9, hA a (Array.getElem?_eq_some_iff.mp h5).1⟩
theorem vx_isRef {C n d : String} {v : Value} {A : Nat → Prop} {s : State} {args : Array Value} (h : va_Z C n d v A s s.heap) (hv : v.isRef = true) : (Cond.isRef (.static C n d)).before args s = true := by
  obtain ⟨cf, kf, fi, f, a, cell, h1, h2, h3, h4, h5, h6, h7, -⟩ := h
  have he : (Term.static C n d).eval args s none [] s = some v := by
    simp [Term.eval, State.fieldNamed?, h1, h2, h4, h5, h6, h7]
  simp only [Cond.before, Cond.holds, Cond.value, he]
  cases v <;> simp_all [Value.isRef]
theorem vx_isRefq {C n d : String} {A : Nat → Prop} {s : State} {args : Array Value} (h : va_Zq C n d A s s.heap) : (Cond.isRef (.static C n d)).before args s = true := by
  rcases h with h | ⟨t, h⟩
  · exact vx_isRef h rfl
  · exact vx_isRef h rfl
/-- the same frame, seen from here: as if the method were called anew in this heap -/
theorem vx_rebase {T : State} (X : Stand p l e R s m args below meth c T locs cells slots) {R' : Room} (hf : R'.frames ≤ R.frames) (hl : R'.locals ≤ R.locals) (hc : cells + R'.cells ≤ R.cells) (hs : slots + R'.slots ≤ R.slots) :
    Stand p l e R' ((T.setVm s.vm).setFrames (.invoking m args :: below)) m args below meth c T [] 0 0 := by
  have htop : (T.setVm s.vm).topJava?.isSome := X.here.top
  have hF : ((T.setVm s.vm).setFrames (.invoking m args :: below)).frames = .invoking m args :: below := State.frames_setFrames _ (State.cur_lt_of_top htop)
  obtain ⟨g₀, hg0⟩ := Option.isSome_iff_exists.mp htop
  obtain ⟨r, hr⟩ := State.topJava?_eq_some.mp hg0
  have hl9 : e.platform.stackLimits (T.setVm s.vm).me = e.platform.stackLimits s.me := X.limits
  have hb9 : (T.setVm s.vm).me.stackBytes = s.me.stackBytes := X.bytes
  refine ⟨X.admits, X.cas, X.clock, hF, ?_, X.hears, X.method, X.code, X.here, X.tail, X.warmed, ?_, ?_, ?_⟩
  · have h := X.room
    have hU : ((T.setVm s.vm).setFrames (.invoking m args :: below)).localsInUse = s.localsInUse := by
      rw [State.localsInUse_invoking hF (meth := meth) (c := c) X.method X.code, State.localsInUse_invoking X.frames X.method X.code]
    simp only [State.hasRoom, Bool.and_eq_true, decide_eq_true_eq] at h ⊢
    obtain ⟨⟨⟨⟨h1, h2, h3, h4, h5, h6⟩, h7⟩, h8⟩, h9⟩ := h
    rw [X.frames, List.length_cons] at h2 h3
    have q1 := X.heapSize
    have q2 := X.used
    simp only [hF, hU, List.length_cons, State.stackLimits_setFrames, State.stackBytes_setFrames, hl9, hb9]
    refine ⟨⟨⟨⟨by omega, by omega, by omega, by omega, by omega, h6⟩, ?_⟩, ?_⟩, X.book⟩
    · show T.heap.size + R'.cells ≤ e.platform.maxCells
      omega
    · show T.slotsUsed + R'.slots ≤ e.platform.maxSlots
      omega
  · rw [State.stackLimits_setFrames]; rfl
  · rw [State.stackBytes_setFrames]; rfl
  · refine ⟨?_, Nat.le_refl _, Nat.le_refl _, ?_, ?_, fun a c9 h9 => ⟨c9, h9, rfl, rfl, fun _ _ => rfl⟩⟩
    · obtain ⟨t, ht, -⟩ := State.frames_cons hr
      show T.setVm s.vm = { ((T.setVm s.vm).setFrames (.invoking m args :: below)).setFrames (T.setVm s.vm).frames with heap := T.heap, slotsUsed := T.slotsUsed }
      rw [State.setFrames_setFrames, State.setFrames_self ht]
      rfl
    · show T.slotsUsed = T.slotsUsed + ((T.heap.toList.drop T.heap.size).map (·.slots.size)).sum
      rw [List.drop_eq_nil_of_le (Nat.le_of_eq Array.length_toList)]
      rfl
    · show ((T.heap.toList.drop T.heap.size).map (·.slots.size)).sum ≤ 0
      rw [List.drop_eq_nil_of_le (Nat.le_of_eq Array.length_toList)]
      exact Nat.le_refl _
/-- 'throw new E()': new; dup; invokespecial; athrow -/
theorem vx_throw0 {cc : ByteArray} {pc : Nat} (hexec : p.tables.exec = Jvm.exec) (hb : c.code = cc) (hl : l.stackTraces = false) {own cls : String} {names : List String} {ik ic mc ms : Nat} {A : Nat → Prop}
    (hown : s.vm.findClass own = some m.cls) (hcls : Bundle.fit cls = true) (hnames : ∀ n ∈ names, Bundle.fit n = true)
    (hk : (Cond.classLink own ik cls).before args s = true) (hini : (Cond.initialized cls).before args s = true) (hat : ∀ w ∈ vx_at0 own ic cls names, w.before args s = true)
    (hgood : ∀ w ∈ Cond.classLink own ik cls :: Cond.initialized cls :: vx_at0 own ic cls names, vx_ot w = true)
    (hU : vx_Zq Bundle.tN "UNASSIGNED_STACK" Bundle.steD A s s.heap) (hN : vx_Zq Bundle.tN "SUPPRESSED_SENTINEL" Bundle.listD A s s.heap) (hS : va_S A s.heap H locs) (hsize : ls.size = c.maxLocals)
    (d0 : decode cc pc = .ok (.new ik, 3)) (d3 : decode cc (pc + 3) = .ok (.dup, 1)) (d4 : decode cc (pc + 4) = .ok (.invokespecial ic, 3)) (d7 : decode cc (pc + 7) = .ok (.athrow, 1))
    (hout : ∀ x ∈ c.exceptionTable.toList, covers x (pc + 7) = false)
    (hRframes : names.length + 3 < R.frames) (hRlocals : (rest.map fun v => v.category).sum + (13 * (names.length + 1) + 42) ≤ R.locals) (hRcells : cells + 1 ≤ R.cells) (hRslots : slots + 6 ≤ R.slots) (hlocks : meth.locks = false)
    (hx : ∀ t : State, s.vm.Alike t.vm → H.size ≤ t.heap.size → (∀ q : Nat, q < H.size → t.heap[q]? = H[q]?) → XC cls s t)
    (hf : ∀ z ∈ locs, free z.base) (hc : cells + 1 ≤ mc) (hs : slots + 6 ≤ ms) :
    W p l e R s m args below meth c H locs cells slots (vx_MQ below Qc XC args s mc ms free) (F0 m pc ls rest) := by
  intro T hT X
  have htr : e.platform.stackTraces = false := (show e.platform.stackTraces = l.stackTraces by rw [X.admits.platform]).trans hl
  have Y := vx_rebase X (R' := { frames := R.frames, locals := R.locals, cells := 1, slots := 6 }) (Nat.le_refl _) (Nat.le_refl _) hRcells hRslots
  obtain ⟨s', hA⟩ : ∃ z, z = (T.setVm s.vm).setFrames (.invoking m args :: below) := ⟨_, rfl⟩
  rw [← hA] at Y
  have hvm : s'.vm = s.vm := by rw [hA]; rfl
  have hhp : s'.heap = H := by rw [hA]; exact hT
  have hW0 : s.WarmedH s'.vm := by rw [hvm]; exact State.WarmedH.refl s
  have hat' : ∀ w ∈ vx_at0 own ic cls names, w.before args s' = true := fun w hw => vx_ot_at hW0 hvm.symm (hgood w (List.mem_cons_of_mem _ (List.mem_cons_of_mem _ hw))) (hat w hw)
  have hk' : (Cond.classLink own ik cls).before args s' = true := vx_ot_at hW0 hvm.symm (hgood _ List.mem_cons_self) hk
  have hini' : (Cond.initialized cls).before args s' = true := vx_ot_at hW0 hvm.symm (hgood _ (List.mem_cons_of_mem _ List.mem_cons_self)) hini
  have hU' : vx_Zq Bundle.tN "UNASSIGNED_STACK" Bundle.steD A s' s'.heap := by rw [hhp]; exact vx_Zq.moved hW0.alike (hU.kept hS.2.1)
  have hN' : vx_Zq Bundle.tN "SUPPRESSED_SENTINEL" Bundle.listD A s' s'.heap := by rw [hhp]; exact vx_Zq.moved hW0.alike (hN.kept hS.2.1)
  have h : ∀ w ∈ Bundle.ownAtoms0 own ic cls names, w.before args s' = true := vx_own hat' (vx_isRefq hU'.1) (vx_isRefq hN'.1) hU'.2.word hN'.2.word
  have hown' : s'.vm.findClass own = some m.cls := by rw [hvm]; exact hown
  have hins : (Cond.instantiable cls 6).before args s' = true := h _ (by simp [Bundle.ownAtoms0])
  obtain ⟨vm₁, cX, kX, hfX, hkX, -, -, X₁, st1⟩ := Y.newCold hexec (own := own) (C := cls) (index := ik) (n := 6) hown' hk' hins hini'
    (g := F0 m pc ls rest) rfl (by rw [hb]; exact d0) (Nat.le_refl _) (Nat.le_refl _)
  generalize hT1 : (T.setVm vm₁).pushCell { cls := cX, slots := kX.instanceTypes.map defaultValue, vm := .none } = T1 at X₁ st1
  have hcat : (Value.ref T.heap.size).category = 1 := rfl
  have hcellA : T1.heap[T.heap.size]? = some (freshCell cX kX) := by rw [← hT1]; exact State.heap_pushCell_size _ _
  have d3' : decode c.code (pc + 3) = .ok (.dup, 1) := by rw [hb]; exact d3
  obtain ⟨U, hsteps, hrun, hend, hW, hsame, ce, hce, hO⟩ := X₁.ctorThrow0 hexec htr (own := own) (cls := cls) (names := names) (ic := ic) hown' hcls hnames h (fun x hx => nomatch hx) hfX hkX hcellA (by rw [hhp, hT]; exact Nat.le_refl _)
    (g := { method := m, pc := pc + 4, locals := ls, stack := .ref T.heap.size :: .ref T.heap.size :: rest, locked := none }) rfl hsize rfl rfl (rest := rest) rfl
    (by rw [hb]; exact d4) (by rw [hb]; exact d7) hout hRframes (by simp only [List.map_cons, List.sum_cons, hcat]; omega) hlocks
  obtain ⟨f1, f2⟩ := vx_frame hsame
  rw [hhp] at f1 f2
  have hWs : s.WarmedH U.vm := State.WarmedH.trans hW0 hW
  have hcl : s.vm.findClass cls = some ce.cls := by
    have h9 := hO.cls
    rw [hvm] at h9
    exact h9
  have hall : s.sameButNew ({ U with vm := s.vm } : State) locs mc ms := by
    subst hA
    obtain ⟨e1, e2⟩ := hsame
    rw [State.setFrames_setFrames] at e1
    have h2 : (T.setVm s.vm).sameButNew ({ U with vm := s.vm } : State) [] (0 + 1) (0 + 6) := ⟨e1, e2⟩
    have h3 := X.same.trans h2
    rw [List.append_nil] at h3
    exact h3.mono hc hs
  refine ⟨U, ?_, .threw T.heap.size, hrun, hend, Or.inr ⟨T.heap.size, rfl, cls, ce, locs, hx U hWs.alike f1 (fun q hq => f2 q hq (fun z hz => nomatch hz)), hce, hO.vm, hcl, hWs, hall, hf⟩⟩
  refine st1 _ ?_
  show Steps p.tables e below (T1.setTop { method := m, pc := pc + 3, locals := ls, stack := .ref T.heap.size :: rest, locked := none }) _
  jvm_step X₁.here [X₁.here.top, hexec, d3', Value.category]
  exact hsteps
/-- 'throw new E("text")': new; dup; ldc; invokespecial; athrow -/
theorem vx_throwS {cc : ByteArray} {pc : Nat} (hexec : p.tables.exec = Jvm.exec) (hb : c.code = cc) (hl : l.stackTraces = false) {own cls text : String} {names : List String} {ik is ic mc ms sa : Nat} {A : Nat → Prop}
    (hown : s.vm.findClass own = some m.cls) (hcls : Bundle.fit cls = true) (hnames : ∀ n ∈ names, Bundle.fit n = true)
    (hk : (Cond.classLink own ik cls).before args s = true) (hini : (Cond.initialized cls).before args s = true) (hstr : vk_R own is text sa s) (hat : ∀ w ∈ vx_atS own ic cls names, w.before args s = true)
    (hgood : ∀ w ∈ Cond.classLink own ik cls :: Cond.initialized cls :: vx_atS own ic cls names, vx_ot w = true)
    (hU : vx_Zq Bundle.tN "UNASSIGNED_STACK" Bundle.steD A s s.heap) (hN : vx_Zq Bundle.tN "SUPPRESSED_SENTINEL" Bundle.listD A s s.heap) (hS : va_S A s.heap H locs) (hsize : ls.size = c.maxLocals)
    (d0 : decode cc pc = .ok (.new ik, 3)) (d3 : decode cc (pc + 3) = .ok (.dup, 1)) (d4 : decode cc (pc + 4) = .ok (.ldc is, 2)) (d6 : decode cc (pc + 6) = .ok (.invokespecial ic, 3)) (d9 : decode cc (pc + 9) = .ok (.athrow, 1))
    (hout : ∀ x ∈ c.exceptionTable.toList, covers x (pc + 9) = false)
    (hRframes : names.length + 3 < R.frames) (hRlocals : (rest.map fun v => v.category).sum + (13 * (names.length + 1) + 43) ≤ R.locals) (hRcells : cells + 1 ≤ R.cells) (hRslots : slots + 6 ≤ R.slots) (hlocks : meth.locks = false)
    (hx : ∀ t : State, s.vm.Alike t.vm → H.size ≤ t.heap.size → (∀ q : Nat, q < H.size → t.heap[q]? = H[q]?) → XC cls s t)
    (hf : ∀ z ∈ locs, free z.base) (hc : cells + 1 ≤ mc) (hs : slots + 6 ≤ ms) :
    W p l e R s m args below meth c H locs cells slots (vx_MQ below Qc XC args s mc ms free) (F0 m pc ls rest) := by
  intro T hT X
  have htr : e.platform.stackTraces = false := (show e.platform.stackTraces = l.stackTraces by rw [X.admits.platform]).trans hl
  have Y := vx_rebase X (R' := { frames := R.frames, locals := R.locals, cells := 1, slots := 6 }) (Nat.le_refl _) (Nat.le_refl _) hRcells hRslots
  obtain ⟨s', hA⟩ : ∃ z, z = (T.setVm s.vm).setFrames (.invoking m args :: below) := ⟨_, rfl⟩
  rw [← hA] at Y
  have hvm : s'.vm = s.vm := by rw [hA]; rfl
  have hhp : s'.heap = H := by rw [hA]; exact hT
  have hW0 : s.WarmedH s'.vm := by rw [hvm]; exact State.WarmedH.refl s
  have hat' : ∀ w ∈ vx_atS own ic cls names, w.before args s' = true := fun w hw => vx_ot_at hW0 hvm.symm (hgood w (List.mem_cons_of_mem _ (List.mem_cons_of_mem _ hw))) (hat w hw)
  have hk' : (Cond.classLink own ik cls).before args s' = true := vx_ot_at hW0 hvm.symm (hgood _ List.mem_cons_self) hk
  have hini' : (Cond.initialized cls).before args s' = true := vx_ot_at hW0 hvm.symm (hgood _ (List.mem_cons_of_mem _ List.mem_cons_self)) hini
  have hU' : vx_Zq Bundle.tN "UNASSIGNED_STACK" Bundle.steD A s' s'.heap := by rw [hhp]; exact vx_Zq.moved hW0.alike (hU.kept hS.2.1)
  have hN' : vx_Zq Bundle.tN "SUPPRESSED_SENTINEL" Bundle.listD A s' s'.heap := by rw [hhp]; exact vx_Zq.moved hW0.alike (hN.kept hS.2.1)
  have h : ∀ w ∈ Bundle.ownAtoms own ic cls names, w.before args s' = true := vx_own hat' (vx_isRefq hU'.1) (vx_isRefq hN'.1) hU'.2.word hN'.2.word
  have hown' : s'.vm.findClass own = some m.cls := by rw [hvm]; exact hown
  have hins : (Cond.instantiable cls 6).before args s' = true := h _ (by simp [Bundle.ownAtoms])
  obtain ⟨vm₁, cX, kX, hfX, hkX, -, -, X₁, st1⟩ := Y.newCold hexec (own := own) (C := cls) (index := ik) (n := 6) hown' hk' hins hini'
    (g := F0 m pc ls rest) rfl (by rw [hb]; exact d0) (Nat.le_refl _) (Nat.le_refl _)
  generalize hT1 : (T.setVm vm₁).pushCell { cls := cX, slots := kX.instanceTypes.map defaultValue, vm := .none } = T1 at X₁ st1
  have hcat : (Value.ref T.heap.size).category = 1 := rfl
  have hcellA : T1.heap[T.heap.size]? = some (freshCell cX kX) := by rw [← hT1]; exact State.heap_pushCell_size _ _
  have d3' : decode c.code (pc + 3) = .ok (.dup, 1) := by rw [hb]; exact d3
  have d4' : decode c.code (pc + 4) = .ok (.ldc is, 2) := by rw [hb]; exact d4
  have hstr' : vk_R own is text sa s' := vk_R.warm hW0 hstr
  obtain ⟨U, hsteps, hrun, hend, hW, hsame, ce, hce, hO⟩ := X₁.ctorThrowS hexec htr (own := own) (cls := cls) (names := names) (ic := ic) hown' hcls hnames h (fun x hx => nomatch hx) hfX hkX hcellA (by rw [hhp, hT]; exact Nat.le_refl _) (msg := .ref sa) rfl
    (g := { method := m, pc := pc + 6, locals := ls, stack := .ref sa :: .ref T.heap.size :: .ref T.heap.size :: rest, locked := none }) rfl hsize rfl rfl (rest := rest) rfl
    (by rw [hb]; exact d6) (by rw [hb]; exact d9) hout hRframes (by simp only [List.map_cons, List.sum_cons, hcat]; omega) hlocks
  obtain ⟨f1, f2⟩ := vx_frame hsame
  rw [hhp] at f1 f2
  have hWs : s.WarmedH U.vm := State.WarmedH.trans hW0 hW
  have hcl : s.vm.findClass cls = some ce.cls := by
    have h9 := hO.cls
    rw [hvm] at h9
    exact h9
  have hall : s.sameButNew ({ U with vm := s.vm } : State) locs mc ms := by
    subst hA
    obtain ⟨e1, e2⟩ := hsame
    rw [State.setFrames_setFrames] at e1
    have h2 : (T.setVm s.vm).sameButNew ({ U with vm := s.vm } : State) [] (0 + 1) (0 + 6) := ⟨e1, e2⟩
    have h3 := X.same.trans h2
    rw [List.append_nil] at h3
    exact h3.mono hc hs
  refine ⟨U, ?_, .threw T.heap.size, hrun, hend, Or.inr ⟨T.heap.size, rfl, cls, ce, locs, hx U hWs.alike f1 (fun q hq => f2 q hq (fun z hz => nomatch hz)), hce, hO.vm, hcl, hWs, hall, hf⟩⟩
  refine st1 _ ?_
  show Steps p.tables e below (T1.setTop { method := m, pc := pc + 3, locals := ls, stack := .ref T.heap.size :: rest, locked := none }) _
  jvm_step X₁.here [X₁.here.top, hexec, d3', Value.category]
  exact X₁.ldcString hexec (own := own) (text := text) (index := is) (a := sa) hown' hstr'.1 hstr'.2
    (g := { method := m, pc := pc + 4, locals := ls, stack := .ref T.heap.size :: .ref T.heap.size :: rest, locked := none }) rfl d4' _ hsteps
/-- 'throw new E("text")', the text by a wide index -/
theorem vx_throwSW {cc : ByteArray} {pc : Nat} (hexec : p.tables.exec = Jvm.exec) (hb : c.code = cc) (hl : l.stackTraces = false) {own cls text : String} {names : List String} {ik is ic mc ms sa : Nat} {A : Nat → Prop}
    (hown : s.vm.findClass own = some m.cls) (hcls : Bundle.fit cls = true) (hnames : ∀ n ∈ names, Bundle.fit n = true)
    (hk : (Cond.classLink own ik cls).before args s = true) (hini : (Cond.initialized cls).before args s = true) (hstr : vk_R own is text sa s) (hat : ∀ w ∈ vx_atS own ic cls names, w.before args s = true)
    (hgood : ∀ w ∈ Cond.classLink own ik cls :: Cond.initialized cls :: vx_atS own ic cls names, vx_ot w = true)
    (hU : vx_Zq Bundle.tN "UNASSIGNED_STACK" Bundle.steD A s s.heap) (hN : vx_Zq Bundle.tN "SUPPRESSED_SENTINEL" Bundle.listD A s s.heap) (hS : va_S A s.heap H locs) (hsize : ls.size = c.maxLocals)
    (d0 : decode cc pc = .ok (.new ik, 3)) (d3 : decode cc (pc + 3) = .ok (.dup, 1)) (d4 : decode cc (pc + 4) = .ok (.ldc_w is, 3)) (d7 : decode cc (pc + 7) = .ok (.invokespecial ic, 3)) (d10 : decode cc (pc + 10) = .ok (.athrow, 1))
    (hout : ∀ x ∈ c.exceptionTable.toList, covers x (pc + 10) = false)
    (hRframes : names.length + 3 < R.frames) (hRlocals : (rest.map fun v => v.category).sum + (13 * (names.length + 1) + 43) ≤ R.locals) (hRcells : cells + 1 ≤ R.cells) (hRslots : slots + 6 ≤ R.slots) (hlocks : meth.locks = false)
    (hx : ∀ t : State, s.vm.Alike t.vm → H.size ≤ t.heap.size → (∀ q : Nat, q < H.size → t.heap[q]? = H[q]?) → XC cls s t)
    (hf : ∀ z ∈ locs, free z.base) (hc : cells + 1 ≤ mc) (hs : slots + 6 ≤ ms) :
    W p l e R s m args below meth c H locs cells slots (vx_MQ below Qc XC args s mc ms free) (F0 m pc ls rest) := by
  intro T hT X
  have htr : e.platform.stackTraces = false := (show e.platform.stackTraces = l.stackTraces by rw [X.admits.platform]).trans hl
  have Y := vx_rebase X (R' := { frames := R.frames, locals := R.locals, cells := 1, slots := 6 }) (Nat.le_refl _) (Nat.le_refl _) hRcells hRslots
  obtain ⟨s', hA⟩ : ∃ z, z = (T.setVm s.vm).setFrames (.invoking m args :: below) := ⟨_, rfl⟩
  rw [← hA] at Y
  have hvm : s'.vm = s.vm := by rw [hA]; rfl
  have hhp : s'.heap = H := by rw [hA]; exact hT
  have hW0 : s.WarmedH s'.vm := by rw [hvm]; exact State.WarmedH.refl s
  have hat' : ∀ w ∈ vx_atS own ic cls names, w.before args s' = true := fun w hw => vx_ot_at hW0 hvm.symm (hgood w (List.mem_cons_of_mem _ (List.mem_cons_of_mem _ hw))) (hat w hw)
  have hk' : (Cond.classLink own ik cls).before args s' = true := vx_ot_at hW0 hvm.symm (hgood _ List.mem_cons_self) hk
  have hini' : (Cond.initialized cls).before args s' = true := vx_ot_at hW0 hvm.symm (hgood _ (List.mem_cons_of_mem _ List.mem_cons_self)) hini
  have hU' : vx_Zq Bundle.tN "UNASSIGNED_STACK" Bundle.steD A s' s'.heap := by rw [hhp]; exact vx_Zq.moved hW0.alike (hU.kept hS.2.1)
  have hN' : vx_Zq Bundle.tN "SUPPRESSED_SENTINEL" Bundle.listD A s' s'.heap := by rw [hhp]; exact vx_Zq.moved hW0.alike (hN.kept hS.2.1)
  have h : ∀ w ∈ Bundle.ownAtoms own ic cls names, w.before args s' = true := vx_own hat' (vx_isRefq hU'.1) (vx_isRefq hN'.1) hU'.2.word hN'.2.word
  have hown' : s'.vm.findClass own = some m.cls := by rw [hvm]; exact hown
  have hins : (Cond.instantiable cls 6).before args s' = true := h _ (by simp [Bundle.ownAtoms])
  obtain ⟨vm₁, cX, kX, hfX, hkX, -, -, X₁, st1⟩ := Y.newCold hexec (own := own) (C := cls) (index := ik) (n := 6) hown' hk' hins hini'
    (g := F0 m pc ls rest) rfl (by rw [hb]; exact d0) (Nat.le_refl _) (Nat.le_refl _)
  generalize hT1 : (T.setVm vm₁).pushCell { cls := cX, slots := kX.instanceTypes.map defaultValue, vm := .none } = T1 at X₁ st1
  have hcat : (Value.ref T.heap.size).category = 1 := rfl
  have hcellA : T1.heap[T.heap.size]? = some (freshCell cX kX) := by rw [← hT1]; exact State.heap_pushCell_size _ _
  have d3' : decode c.code (pc + 3) = .ok (.dup, 1) := by rw [hb]; exact d3
  have d4' : decode c.code (pc + 4) = .ok (.ldc_w is, 3) := by rw [hb]; exact d4
  have hstr' : vk_R own is text sa s' := vk_R.warm hW0 hstr
  obtain ⟨U, hsteps, hrun, hend, hW, hsame, ce, hce, hO⟩ := X₁.ctorThrowS hexec htr (own := own) (cls := cls) (names := names) (ic := ic) hown' hcls hnames h (fun x hx => nomatch hx) hfX hkX hcellA (by rw [hhp, hT]; exact Nat.le_refl _) (msg := .ref sa) rfl
    (g := { method := m, pc := pc + 7, locals := ls, stack := .ref sa :: .ref T.heap.size :: .ref T.heap.size :: rest, locked := none }) rfl hsize rfl rfl (rest := rest) rfl
    (by rw [hb]; exact d7) (by rw [hb]; exact d10) hout hRframes (by simp only [List.map_cons, List.sum_cons, hcat]; omega) hlocks
  obtain ⟨f1, f2⟩ := vx_frame hsame
  rw [hhp] at f1 f2
  have hWs : s.WarmedH U.vm := State.WarmedH.trans hW0 hW
  have hcl : s.vm.findClass cls = some ce.cls := by
    have h9 := hO.cls
    rw [hvm] at h9
    exact h9
  have hall : s.sameButNew ({ U with vm := s.vm } : State) locs mc ms := by
    subst hA
    obtain ⟨e1, e2⟩ := hsame
    rw [State.setFrames_setFrames] at e1
    have h2 : (T.setVm s.vm).sameButNew ({ U with vm := s.vm } : State) [] (0 + 1) (0 + 6) := ⟨e1, e2⟩
    have h3 := X.same.trans h2
    rw [List.append_nil] at h3
    exact h3.mono hc hs
  refine ⟨U, ?_, .threw T.heap.size, hrun, hend, Or.inr ⟨T.heap.size, rfl, cls, ce, locs, hx U hWs.alike f1 (fun q hq => f2 q hq (fun z hz => nomatch hz)), hce, hO.vm, hcl, hWs, hall, hf⟩⟩
  refine st1 _ ?_
  show Steps p.tables e below (T1.setTop { method := m, pc := pc + 3, locals := ls, stack := .ref T.heap.size :: rest, locked := none }) _
  jvm_step X₁.here [X₁.here.top, hexec, d3', Value.category]
  exact X₁.ldcStringW hexec (own := own) (text := text) (index := is) (a := sa) hown' hstr'.1 hstr'.2
    (g := { method := m, pc := pc + 4, locals := ls, stack := .ref T.heap.size :: .ref T.heap.size :: rest, locked := none }) rfl d4' _ hsteps
end Ends
section Bodies
variable {l : Launch}
theorem vx_ofW {y : MethodName} {ws ws' : List Cond} {rm : Room} {Pc : Array Value → State → Prop} {Qc : Array Value → State → Outcome → State → Prop} {XC : String → State → State → Prop} {mc ms : Nat} {free : Addr → Prop} {cc : ByteArray} {maxL : Nat} {ret : Option FieldType}
    (hy : plainName y.cls = true) (hw : ws = Cond.code y cc maxL ret :: ws')
    (body : ∀ p e s m args below meth c s₁, BodyLoose p l y (headSpec ws rm) cc maxL ret e s m args below meth c s₁ → c.maxLocals = maxL → (∀ x ∈ c.exceptionTable.toList, False) → Pc args s →
      W p l e (headSpec ws rm).room s m args below meth c s.heap [] 0 0 (vx_MQ below Qc XC args s mc ms free) (entryFrame m args maxL)) : vx_Met l y ws rm Pc Qc XC mc ms free := by
  refine MetFree.of_bodyS (code := cc) (maxLocals := maxL) (ret := ret) hy ?_ ?_
  · intro args s m h hn
    obtain ⟨meth, c, h1, h2, h3, h4, h5, h6, -, -⟩ := Cond.code_spec hn (atoms_spec (ws := ws) h _ (by rw [hw]; exact List.mem_cons_self))
    exact ⟨meth, c, h1, h2, h3, h4, h5, h6⟩
  · intro p e s m args below meth c s₁ B hml hP _
    have hh0 : s₁.heap = s.heap := by rw [B.state]; rfl
    have ht : ∀ x ∈ c.exceptionTable.toList, False := by
      obtain ⟨meth9, c9, h1, h2, -, -, -, -, h7, -⟩ := Cond.code_spec B.named (atoms_spec (ws := ws) B.pre _ (by rw [hw]; exact List.mem_cons_self))
      cases Option.some.inj (h1.symm.trans B.method)
      cases Option.some.inj (h2.symm.trans (Stand.of_body B).code)
      intro x hx
      rw [Array.isEmpty_iff.mp h7] at hx
      cases hx
    obtain ⟨t, a1, o, b1, b2, b3⟩ := body p e s m args below meth c s₁ B hml ht hP s₁ hh0 (Stand.of_body B)
    exact ⟨t, o, a1, b1, b2, b3⟩
/-- the table of a body with handlers -/
theorem vx_table {p : Program} {x y : MethodName} {S : Spec} {cc bytes : ByteArray} {maxL maxL' : Nat} {ret ret' : Option FieldType} {e : Env} {s s₁ : State} {m : MethodId} {args : Array Value} {below : List Frame} {meth : Method} {c : Code} {hh : List (Nat × Nat × Nat × Nat)}
    (B : BodyLoose p l y S cc maxL ret e s m args below meth c s₁) (h : (Cond.codeWith y bytes maxL' ret' hh).before args s = true) : c.exceptionTable.toList = tableOf hh := by
  obtain ⟨m9, meth9, c9, hn9, h1, h2, -, -, h6, -⟩ := Cond.codeWith_spec h
  cases Option.some.inj (hn9.symm.trans B.named)
  cases Option.some.inj (h1.symm.trans B.method)
  cases Option.some.inj (h2.symm.trans (Stand.of_body B).code)
  rw [← h6, table_eq]
end Bodies
end VXA
/-! ===== END ===== -/
/-! ===== BEGIN a static call of a method with an exception table ===== -/
section VXS
variable {p : Program} {l : Launch} {e : Env} {R : Room} {s : State} {m : MethodId} {args : Array Value} {below : List Frame} {meth : Method} {c : Code} {T : State} {H : Heap} {locs : List Loc} {cells slots : Nat}
abbrev vx_CSW (R : Room) (s : State) (args : Array Value) (own : String) (index : Nat) (y : MethodName) (bytes : ByteArray) (maxL : Nat) (ret : Option FieldType) (hh : List (Nat × Nat × Nat × Nat)) (ws : List Cond) (rm : Room) (mc ms n : Nat) : Prop :=
  (rm.cells = mc ∧ rm.slots = ms ∧ rm.frames + 1 ≤ R.frames ∧ 8 + (maxL + 11) + rm.locals ≤ R.locals ∧ (∀ w ∈ ws, ∀ (a' : Array Value) (U : State), s.WarmedH U.vm → w.before a' U = true) ∧ Cond.codeWith y bytes maxL ret hh ∈ ws) ∧
  (Cond.codeWith y bytes maxL ret hh).before args s = true ∧ (Cond.initialized y.cls).before args s = true ∧ (y.cls ≠ "java/lang/invoke/MethodHandle" ∧ y.cls ≠ "java/lang/invoke/VarHandle") ∧
  (∀ sig, parseMethodDescriptor y.desc = some sig → n = sig.parameters.length) ∧ (Cond.methodLink own index y).before args s = true ∧ (Cond.static y).before args s = true
theorem vx_cwSW {own : String} {index maxL mc ms : Nat} {y : MethodName} {bytes : ByteArray} {ret : Option FieldType} {hh : List (Nat × Nat × Nat × Nat)} {Ts ws ws' : List Cond} {rm : Room} (n : Nat) (ht : ∀ w ∈ Ts, w.before args s = true) (hT : GoodIn Ts (va_wsS own index y ws)) (hw : ws = Cond.codeWith y bytes maxL ret hh :: ws') (hrc : rm.cells = mc) (hrs : rm.slots = ms)
    (hd : y.cls ≠ "java/lang/invoke/MethodHandle" ∧ y.cls ≠ "java/lang/invoke/VarHandle" ∧ (parseMethodDescriptor y.desc).map (fun d => d.parameters.length) = some n) (hR : rm.frames + 1 ≤ R.frames ∧ 8 + (maxL + 11) + rm.locals ≤ R.locals) :
    vx_CSW R s args own index y bytes maxL ret hh ws rm mc ms n := by
  have ok : ∀ w ∈ va_wsS own index y ws, w.before args s = true := fun w h => ht w (hT w h).1
  have hG : GoodIn Ts ws := fun w h => hT w (by unfold va_wsS; exact List.mem_append_right _ h)
  have hc : Cond.codeWith y bytes maxL ret hh ∈ ws := by rw [hw]; exact List.mem_cons_self
  refine ⟨⟨hrc, hrs, hR.1, hR.2, pay_in ht hG, hc⟩, ht _ (hG _ hc).1, ok _ (by simp [va_wsS]), ⟨hd.1, hd.2.1⟩, fun sig h => ?_, ok _ (by simp [va_wsS]), ok _ (by simp [va_wsS])⟩
  have h2 := hd.2.2
  rw [h] at h2
  exact (Option.some.inj h2).symm
theorem vx_callSW (X : Stand p l e R s m args below meth c T locs cells slots) (hexec : p.tables.exec = Jvm.exec) {own : String} {index : Nat} {y : MethodName} {bytes : ByteArray} {maxL : Nat} {ret : Option FieldType} {hh : List (Nat × Nat × Nat × Nat)}
    (hown : s.vm.findClass own = some m.cls) (hlink : (Cond.methodLink own index y).before args s = true) (hstat : (Cond.static y).before args s = true) (hinit : (Cond.initialized y.cls).before args s = true)
    (hcode : (Cond.codeWith y bytes maxL ret hh).before args s = true) (hy : y.cls ≠ "java/lang/invoke/MethodHandle" ∧ y.cls ≠ "java/lang/invoke/VarHandle")
    {W9 : Nat} {Pre : Pt → Array Value → Prop} {Post : Pt → Array Value → Option Value → Pt → Prop} (hK : Back l R p e below s args y 3 W9 Pre Post)
    {g : JFrame} (hg : g.method = m) (hsize : g.locals.size = c.maxLocals) {argsL rest : List Value} (hlen : ∀ sig, parseMethodDescriptor y.desc = some sig → argsL.length = sig.parameters.length)
    (hstack : g.stack = argsL.reverse ++ rest) (hW : 2 * g.monitorRoom + (rest.map fun v => v.category).sum ≤ W9) (hdg : decode c.code g.pc = .ok (.invokestatic index, 3))
    (hpre : ∀ vm₁, s.WarmedH vm₁ → Pre ⟨T.setVm vm₁, locs, cells, slots⟩ argsL.toArray) :
    ∃ (v : Option Value) (vm₁ : Vm) (B : Pt), s.WarmedH vm₁ ∧ Stand p l e R s m args below meth c B.U B.locs B.cells B.slots ∧ Post ⟨T.setVm vm₁, locs, cells, slots⟩ argsL.toArray v B ∧
      ∀ target, Steps p.tables e below (B.U.setTop { g with pc := g.pc + 3, stack := v.toList ++ rest }) target → Steps p.tables e below (T.setTop g) target := by
  obtain ⟨mk, methM, cM, hnamed, hmethM, -, -, -, -, -, -, hsigM⟩ := Cond.codeWith_spec hcode
  have hstatic : methM.isStatic = true := Cond.static_spec hnamed hmethM hstat
  obtain ⟨kP, hkP, -⟩ := className_of_methodNamed hnamed
  have hinitP : kP.init = .initialized := Cond.initialized_spec (findClass_of_methodNamed hnamed) hkP hinit
  obtain ⟨vm₁, X₁, hstep₁⟩ := X.invokestatic hexec hown hlink hnamed hmethM hstatic hkP hinitP hy (g := g) hg (argsL := argsL) (rest := rest) (hlen _ hsigM) hstack hdg
  obtain ⟨v, B, X', hpost, hsteps⟩ := hK m meth c ⟨T.setVm vm₁, locs, cells, slots⟩ { g with stack := rest } (.invokestatic index) mk argsL.toArray X₁ hg hsize hdg hW (X₁.named hnamed) (hpre vm₁ X₁.warmed)
  exact ⟨v, vm₁, B, X₁.warmed, X', hpost, fun target h => hstep₁ _ fun acts => by rw [doInvoke_state]; exact hsteps.trans h⟩
theorem vx_runSW {y : MethodName} {bytes cc : ByteArray} {maxL nL mc ms n index : Nat} {ret : Option FieldType} {hh : List (Nat × Nat × Nat × Nat)} {ws : List Cond} {rm : Room} {Pc : Array Value → State → Prop} {Qc : Array Value → State → Outcome → State → Prop} {free : Addr → Prop} {Ts : List Cond} {own : String} {As rest : List Value} {g : JFrame}
    (S : CallFix p m c cc nL s args Ts own) (hM : Met l y ws rm Pc Qc mc ms free) (cw : vx_CSW R s args own index y bytes maxL ret hh ws rm mc ms n) (hp : PreS s H Pc As)
    (hg : g.method = m) (hn : As.length = n) (hsize : g.locals.size = nL) (hstack : g.stack = As.reverse ++ rest) (hW : 2 * g.monitorRoom + (rest.map fun v => v.category).sum ≤ 8) (hdg : decode cc g.pc = .ok (.invokestatic index, 3)) (hf : cells + mc ≤ R.cells ∧ slots + ms ≤ R.slots) :
    va_Run p l e R s m args below meth c H locs cells slots mc ms g rest (Qc As.toArray) (free) := by
  obtain ⟨⟨hrc, hrs, hfr, hlo, hws, hcw⟩, hcode, hini, hy, hlen, hl, hstt⟩ := cw
  have hK : Back l R p e below s args y 3 8 (PreOf R mc ms Pc) (PostOf Qc mc ms free) := va_backW (hh := hh) (bytes := bytes) (maxL := maxL) (ret := ret) hM hp.1 hrc hrs hfr hlo hws hcw (fun a' U hW => word_at hW (Or.inl (by first | rfl | simp [Cond.onTables, Cond.keeps, Cond.steady])) hini)
  obtain ⟨hx, hb, hml, ho, -⟩ := S
  intro T hT X
  obtain ⟨v, vm₁, ⟨U', l2, c2, s2⟩, hW₁, X', ⟨g', mk, t, L, e1, e2, hq, h1, hL, h2, h3⟩, st⟩ := vx_callSW X hx (hh := hh) (bytes := bytes) (maxL := maxL) (ret := ret) ho hl hstt hini hcode hy hK hg (hsize.trans hml.symm) (argsL := As) (rest := rest) (fun sig h => hn.trans (hlen sig h)) hstack hW (by rw [hb]; exact hdg)
    (fun vm₁ hW₁ => ⟨hf.1, hf.2, hp.2 (T.setVm vm₁) hT hW₁⟩)
  dsimp only [Pt.U, Pt.locs, Pt.cells, Pt.slots] at X' e1 e2 h1 h2 h3 st
  subst h1; subst h2; subst h3
  exact ⟨v, (T.setVm vm₁).calling g' mk As.toArray, t, U', L, hT, X', hL, e1, e2, hq, st⟩
/-- not caught here, past rows that name other classes: it goes on to the caller -/
theorem vx_outP {p : Program} {l : Launch} {e : Env} {R : Room} {s : State} {m : MethodId} {args : Array Value} {below : List Frame} {meth : Method} {c : Code} {H : Heap} {locs : List Loc} {cells slots : Nat} {free : Addr → Prop} {ls : Array Slot} {rest : List Value} {Qc : Array Value → State → Outcome → State → Prop} {XC : String → State → State → Prop}
    {pc : Nat} {own E : String} {ce : Cell} {q : Addr} {mc ms : Nat} (hown : s.vm.findClass own = some m.cls) (hlocks : meth.locks = false)
    (hpass : ∀ z ∈ c.exceptionTable.toList, covers z pc = false ∨ (z.catchType ≠ 0 ∧ ∃ nm : String, (Cond.classLink own z.catchType nm).before args s = true ∧ va_Nc E nm s)) (hcell : H[q]? = some ce) (hv : ce.vm = .none) (hcl : s.vm.findClass E = some ce.cls)
    (hx : ∀ t : State, t.heap = H → s.vm.Alike t.vm → XC E s t) (hf : ∀ z ∈ locs, free z.base) (hc : cells ≤ mc) (hs : slots ≤ ms) :
    vx_W p l e R s m args below meth c H locs cells slots (vx_MQ below Qc XC args s mc ms free) (F0 m pc ls rest) q := by
  intro T hT X
  have hpl : e.platform.magicAccessors = ({} : Platform).magicAccessors := by rw [X.admits.platform]
  obtain ⟨vm', hW', X', st⟩ := X.outThrough hlocks q (g := F0 m pc ls rest) rfl rfl rfl (cell := ce) (by rw [hT]; exact hcell) (by rw [hv]; rfl)
    (by obtain ⟨k9, h9, -⟩ := Vm.findClass_spec hcl; exact ⟨k9, h9⟩) (fun z hz => by
      rcases hpass z hz with h | ⟨hz0, nm, hl1, hn1⟩
      · exact Or.inl h
      · obtain ⟨c6, hc6, hcl6⟩ := Cond.classLink_spec hown hl1 e.platform hpl
        obtain ⟨a8, b8, h1, h2, h3⟩ := hn1
        cases Option.some.inj (h1.symm.trans hcl)
        cases Option.some.inj (h2.symm.trans hc6)
        exact Or.inr ⟨hz0, _, hcl6, h3⟩)
  obtain ⟨g₀, hfr⟩ := X'.frames_eq
  have hcell9 : ((T.setVm vm').setFrames (.throwing q :: below)).heap[q]? = some ce := by
    show T.heap[q]? = some ce
    rw [hT]; exact hcell
  have hend : Ended ((T.setVm vm').setFrames (.throwing q :: below)) below (.threw q) := State.frames_setFrames _ (State.cur_lt_of_frames hfr)
  refine ⟨(T.setVm vm').setFrames (.throwing q :: below), ?_, .threw q, X'.here.running, hend, Or.inr ⟨q, rfl, E, ce, locs, hx _ hT (X'.ends _).1.alike, hcell9, hv, hcl, (X'.ends _).1, (X'.ends _).2.mono hc hs, hf⟩⟩
  rw [X.pushThrowing_eq]
  exact st
/-- a thing of a world lies in the heap -/
theorem vx_lt {D : va_G} {cl : List vw_C} {ws : va_W} {H1 : Heap} (h : va_P D cl ws H1) {k : Nat} {q : Nat × va_E} (hk : ws[k]? = some q) : q.1 < H1.size := (h k q hk).lt
end VXS
/-! ===== END ===== -/
/-! ===== BEGIN methods with a table of their own: called by a name, returning or throwing ===== -/
section VXH
/-! vx_backW, vx_callVX, vx_callSX, vx_callVW, vx_runVW, vx_runVX, vx_runSX, vx_ofWH follow the same proofs as their sisters above (Free/Laws.lean, Shelf42/LK1.lean); vx_outP calls Shelf42/NT130.lean (outThrough). -/
section
variable {l : Launch} {R : Room} {p : Program} {e : Env} {below : List Frame} {s : State} {sargs : Array Value} {y : MethodName} {len W9 : Nat}
theorem vx_backW {ws : List Cond} {rm : Room} {Pc : Array Value → State → Prop} {Qc : Array Value → State → Outcome → State → Prop} {XC : String → State → State → Prop} {mc ms : Nat} {free : Addr → Prop} {bytes : ByteArray} {maxL : Nat} {ret : Option FieldType} {hh : List (Nat × Nat × Nat × Nat)}
    (hM : vx_Met l y ws rm Pc Qc XC mc ms free) (hblind : FrameBlind Pc) (hrc : rm.cells = mc) (hrs : rm.slots = ms)
    (hframes : rm.frames + 1 ≤ R.frames) (hlocals : W9 + (maxL + 11) + rm.locals ≤ R.locals)
    (hws : ∀ w ∈ ws, ∀ a' U, s.WarmedH U.vm → w.before a' U = true) (hcode : Cond.codeWith y bytes maxL ret hh ∈ ws) (hinit : ∀ a' U, s.WarmedH U.vm → (Cond.initialized y.cls).before a' U = true) :
    vx_Back l R p e below s sargs y len W9 (PreOf R mc ms Pc) (PostOf Qc mc ms free) (vx_Post XC mc ms free) := by
  intro m meth c A g ig mk a X hg hsize hdg hW hn hp
  have h1 : (headSpec ws rm).pre.before a A.U = true := atoms_intro fun w hw => hws w hw _ _ X.warmed
  have h2 : (Cond.codeWith y bytes maxL ret hh).before a A.U = true := hws _ hcode _ _ X.warmed
  have h3 : (Cond.initialized y.cls).before a A.U = true := hinit _ _ X.warmed
  have h4 : A.cells + (headSpec ws rm).room.cells ≤ R.cells := by rw [show (headSpec ws rm).room.cells = mc from hrc]; exact hp.1
  have h5 : A.slots + (headSpec ws rm).room.slots ≤ R.slots := by rw [show (headSpec ws rm).room.slots = ms from hrs]; exact hp.2.1
  have hPc : Pc a (A.U.calling g mk a) := hblind _ _ _ _ hp.2.2
  obtain ⟨U, Ls, c0, s0⟩ := A
  dsimp only [Pt.U, Pt.locs, Pt.cells, Pt.slots] at h1 h2 h3 h4 h5 X hn hPc ⊢
  obtain ⟨m9, methY, cY, hn9, hmY, hcY, -, hlY, -⟩ := Cond.codeWith_spec h2
  cases Option.some.inj (hn9.symm.trans hn)
  obtain ⟨kY, hkY, -⟩ := className_of_methodNamed hn
  have hinitY : kY.init = .initialized := Cond.initialized_spec (findClass_of_methodNamed hn) hkY h3
  have h : At U g.method c below := by rw [hg]; exact X.here
  have hlocals9 : W9 + (maxL + 11) + (headSpec ws rm).room.locals ≤ R.locals := hlocals
  have happ : (headSpec ws rm).appliesLoose y e.platform (U.calling g mk a) = true :=
    Spec.appliesLoose_calling (g := g) h hdg hn hkY hinitY
      (X.room_calling (g := g) (R' := (headSpec ws rm).room) hsize hmY hcY hframes (by rw [hlY]; omega) h4 h5) h1
  obtain ⟨mid, hmid⟩ := h.above
  have hfr : (U.setTop g).frames = (.java g :: mid) ++ below := by rw [State.frames_setTop' g h.top, hmid]; rfl
  obtain ⟨o, s₂, hsteps, -, hend, hq⟩ := Steps.callFree hM p X.admits X.cas X.clock (acts := []) hfr happ hPc trivial
  have hq' : vx_Q Qc XC mc ms free a (U.calling g mk a) o s₂ := hq
  rw [State.frames_setTop' g h.top] at hend
  obtain ⟨g₀, hg0⟩ := Option.isSome_iff_exists.mp h.top
  obtain ⟨r, hr⟩ := State.topJava?_eq_some.mp hg0
  have hr' : (({ U with heap := s₂.heap, slotsUsed := s₂.slotsUsed } : State).setVm s₂.vm).frames = .java g₀ :: r := hr
  rcases hq' with ⟨hqc, L, hfe, hL⟩ | ⟨q, rfl, E, ce, L, hx, hce, hcv, hcl, hW₂, hsm, hL⟩
  · obtain ⟨⟨v, rfl⟩, hW₂, e2, q2, q3, q4, q5, q6⟩ := id hfe
    have e3 : s₂ = ({ (U.calling g mk a).setFrames s₂.frames with heap := s₂.heap, slotsUsed := s₂.slotsUsed } : State).setVm s₂.vm := by
      have : s₂ = ({ s₂ with vm := (U.calling g mk a).vm } : State).setVm s₂.vm := rfl
      rw [e2] at this
      exact this
    obtain ⟨c₂, i₂, len₂, hc₂, hd₂, hf₂⟩ := hend
    have hW' : U.WarmedH s₂.vm := hW₂
    have hcc : c₂ = c := by
      have h1 : s₂.code? g.method = U.code? g.method := by
        rw [State.code?_eq, State.code?_eq, hW'.alike.method?]
      exact Option.some.inj (hc₂.symm.trans (h1.trans h.code))
    subst hcc
    have hlen : len₂ = len := by rw [hdg] at hd₂; cases hd₂; rfl
    subst hlen
    have hs₂ : s₂ = (({ U with heap := s₂.heap, slotsUsed := s₂.slotsUsed } : State).setVm s₂.vm).setTop { g with pc := g.pc + len₂, stack := v.toList ++ g.stack } := by
      refine e3.trans ?_
      rw [hf₂, State.calling_eq h.top, State.setFrames_setFrames, State.setTop_of_frames _ hr', hr]
      rfl
    have hsame : U.sameButNew ({ U with heap := s₂.heap, slotsUsed := s₂.slotsUsed } : State) L mc ms := by
      refine ⟨?_, q2, q3, q4, q5, q6⟩
      obtain ⟨t, ht, -⟩ := State.frames_cons hr
      show ({ U with heap := s₂.heap, slotsUsed := s₂.slotsUsed } : State) = { U.setFrames U.frames with heap := s₂.heap, slotsUsed := s₂.slotsUsed }
      rw [State.setFrames_self ht]
    subst hg
    refine Or.inl ⟨v, ⟨(({ U with heap := s₂.heap, slotsUsed := s₂.slotsUsed } : State).setVm s₂.vm), Ls ++ L, c0 + mc, s0 + ms⟩,
      ⟨X.admits, X.cas, X.clock, X.frames, X.room, X.hears, X.method, X.code, (X.here.setHeapUsed s₂.heap s₂.slotsUsed).setVm hW'.alike, X.tail, State.WarmedH.trans X.warmed hW', X.limits, X.bytes, X.same.trans (hsame.setVm s.vm)⟩,
      ⟨g, mk, s₂, L, rfl, rfl, hqc, rfl, hL, rfl, rfl⟩, ?_⟩
    show Steps p.tables e below _ ((({ U with heap := s₂.heap, slotsUsed := s₂.slotsUsed } : State).setVm s₂.vm).setTop { g with pc := g.pc + len₂, stack := v.toList ++ g.stack })
    rw [← hs₂]
    exact hsteps
  · obtain ⟨e2, q2, q3, q4, q5, q6⟩ := id hsm
    have e3 : s₂ = ({ (U.calling g mk a).setFrames s₂.frames with heap := s₂.heap, slotsUsed := s₂.slotsUsed } : State).setVm s₂.vm := by
      have : s₂ = ({ s₂ with vm := (U.calling g mk a).vm } : State).setVm s₂.vm := rfl
      rw [e2] at this
      exact this
    have hf₂ : s₂.frames = .throwing q :: .java g :: U.frames.tail := hend
    have hW' : U.WarmedH s₂.vm := hW₂
    have hs₂ : s₂ = ((({ U with heap := s₂.heap, slotsUsed := s₂.slotsUsed } : State).setVm s₂.vm).setTop g).pushFrame (.throwing q) := by
      refine e3.trans ?_
      rw [hf₂, State.calling_eq h.top, State.setFrames_setFrames, State.pushFrame, State.frames_setTop _ hr', State.setTop_of_frames _ hr', State.setFrames_setFrames, hr]
      rfl
    have hsame : U.sameButNew ({ U with heap := s₂.heap, slotsUsed := s₂.slotsUsed } : State) L mc ms := by
      refine ⟨?_, q2, q3, q4, q5, q6⟩
      obtain ⟨t, ht, -⟩ := State.frames_cons hr
      show ({ U with heap := s₂.heap, slotsUsed := s₂.slotsUsed } : State) = { U.setFrames U.frames with heap := s₂.heap, slotsUsed := s₂.slotsUsed }
      rw [State.setFrames_self ht]
    subst hg
    refine Or.inr ⟨q, ⟨(({ U with heap := s₂.heap, slotsUsed := s₂.slotsUsed } : State).setVm s₂.vm), Ls ++ L, c0 + mc, s0 + ms⟩,
      ⟨X.admits, X.cas, X.clock, X.frames, X.room, X.hears, X.method, X.code, (X.here.setHeapUsed s₂.heap s₂.slotsUsed).setVm hW'.alike, X.tail, State.WarmedH.trans X.warmed hW', X.limits, X.bytes, X.same.trans (hsame.setVm s.vm)⟩,
      ⟨g, mk, s₂, L, E, ce, rfl, rfl, hx, hce, hcv, hcl, rfl, hL, rfl, rfl⟩, ?_⟩
    show Steps p.tables e below _ (((({ U with heap := s₂.heap, slotsUsed := s₂.slotsUsed } : State).setVm s₂.vm).setTop g).pushFrame (.throwing q))
    rw [← hs₂]
    exact hsteps
end
variable {p : Program} {l : Launch} {e : Env} {R : Room} {s : State} {m : MethodId} {args : Array Value} {below : List Frame} {meth : Method} {c : Code} {T : State} {H : Heap} {locs : List Loc} {cells slots : Nat}
theorem vx_callVX (X : Stand p l e R s m args below meth c T locs cells slots) (hexec : p.tables.exec = Jvm.exec) {own C : String} {index : Nat} {y : MethodName} {bytes : ByteArray} {maxL : Nat} {ret : Option FieldType} {hh : List (Nat × Nat × Nat × Nat)}
    (hown : s.vm.findClass own = some m.cls) (hlink : (Cond.methodLink own index y).before args s = true) (hinst : (Cond.instanceMethod y).before args s = true) (hsel : (Cond.selects C y y).before args s = true)
    (hcode : (Cond.codeWith y bytes maxL ret hh).before args s = true) (hy : y.cls ≠ "java/lang/invoke/MethodHandle" ∧ y.cls ≠ "java/lang/invoke/VarHandle")
    {W9 : Nat} {Pre : Pt → Array Value → Prop} {Post : Pt → Array Value → Option Value → Pt → Prop} {PostX : Pt → Array Value → Addr → Pt → Prop} (hK : vx_Back l R p e below s args y 3 W9 Pre Post PostX)
    {b : Addr} {cellB : Cell} (hcell : T.heap[b]? = some cellB) (hobj : cellB.vm.isStatics = false) (hcls : s.vm.findClass C = some cellB.cls)
    {g : JFrame} (hg : g.method = m) (hsize : g.locals.size = c.maxLocals) {argsL rest : List Value} (hlen : ∀ sig, parseMethodDescriptor y.desc = some sig → argsL.length = sig.parameters.length)
    (hstack : g.stack = argsL.reverse ++ .ref b :: rest) (hW : 2 * g.monitorRoom + (rest.map fun v => v.category).sum ≤ W9) (hdg : decode c.code g.pc = .ok (.invokevirtual index, 3))
    (hpre : ∀ vm₁, s.WarmedH vm₁ → Pre ⟨T.setVm vm₁, locs, cells, slots⟩ (Value.ref b :: argsL).toArray) :
    (∃ (v : Option Value) (vm₁ : Vm) (B : Pt), s.WarmedH vm₁ ∧ Stand p l e R s m args below meth c B.U B.locs B.cells B.slots ∧ Post ⟨T.setVm vm₁, locs, cells, slots⟩ (Value.ref b :: argsL).toArray v B ∧
      ∀ target, Steps p.tables e below (B.U.setTop { g with pc := g.pc + 3, stack := v.toList ++ rest }) target → Steps p.tables e below (T.setTop g) target) ∨
    (∃ (q : Addr) (vm₁ : Vm) (B : Pt), s.WarmedH vm₁ ∧ Stand p l e R s m args below meth c B.U B.locs B.cells B.slots ∧ PostX ⟨T.setVm vm₁, locs, cells, slots⟩ (Value.ref b :: argsL).toArray q B ∧
      Steps p.tables e below (T.setTop g) ((B.U.setTop { g with stack := rest }).pushFrame (.throwing q))) := by
  obtain ⟨mk, methM, hnamed, hmethM, hstM, habM⟩ := Cond.instanceMethod_spec hinst
  obtain ⟨m8, methM', cM, hn8, hmethM', -, -, -, -, -, -, hsigM⟩ := Cond.codeWith_spec hcode
  cases Option.some.inj (hn8.symm.trans hnamed)
  cases hmethM.symm.trans hmethM'
  obtain ⟨c2, r2, m2, q1, q2, q3, q4, kP, hkP, hkPi⟩ := Cond.selects_spec hsel
  cases hcls.symm.trans q1
  cases (State.methodFound?_of_named hnamed hy).symm.trans q2
  cases hnamed.symm.trans q3
  have hselP : selectMethod e.platform s.vm cellB.cls mk = .method mk := by rw [Launch.admits_selectMethod X.admits]; exact q4
  obtain ⟨vm₁, X₁, hstep₁⟩ := X.invokevirtual hexec hown hlink hnamed hmethM hstM hkP hkPi hy (a := b) (cell := cellB) hcell
    (fun z h => by rw [h] at hobj; cases hobj) hselP hmethM habM hkP hkPi (g := g) hg (argsL := argsL) (rest := rest) (hlen _ hsigM) hstack hdg
  rcases hK m meth c ⟨T.setVm vm₁, locs, cells, slots⟩ { g with stack := rest } (.invokevirtual index) mk (Value.ref b :: argsL).toArray X₁ hg hsize hdg hW (X₁.named hnamed) (hpre vm₁ X₁.warmed) with ⟨v, B, X', hpost, hsteps⟩ | ⟨q, B, X', hpost, hsteps⟩
  · exact Or.inl ⟨v, vm₁, B, X₁.warmed, X', hpost, fun target h => hstep₁ _ fun acts => by rw [doInvoke_state]; exact hsteps.trans h⟩
  · exact Or.inr ⟨q, vm₁, B, X₁.warmed, X', hpost, hstep₁ _ fun acts => by rw [doInvoke_state]; exact hsteps⟩
theorem vx_callSX (X : Stand p l e R s m args below meth c T locs cells slots) (hexec : p.tables.exec = Jvm.exec) {own : String} {index : Nat} {y : MethodName} {bytes : ByteArray} {maxL : Nat} {ret : Option FieldType} {hh : List (Nat × Nat × Nat × Nat)}
    (hown : s.vm.findClass own = some m.cls) (hlink : (Cond.methodLink own index y).before args s = true) (hstat : (Cond.static y).before args s = true) (hinit : (Cond.initialized y.cls).before args s = true)
    (hcode : (Cond.codeWith y bytes maxL ret hh).before args s = true) (hy : y.cls ≠ "java/lang/invoke/MethodHandle" ∧ y.cls ≠ "java/lang/invoke/VarHandle")
    {W9 : Nat} {Pre : Pt → Array Value → Prop} {Post : Pt → Array Value → Option Value → Pt → Prop} {PostX : Pt → Array Value → Addr → Pt → Prop} (hK : vx_Back l R p e below s args y 3 W9 Pre Post PostX)
    {g : JFrame} (hg : g.method = m) (hsize : g.locals.size = c.maxLocals) {argsL rest : List Value} (hlen : ∀ sig, parseMethodDescriptor y.desc = some sig → argsL.length = sig.parameters.length)
    (hstack : g.stack = argsL.reverse ++ rest) (hW : 2 * g.monitorRoom + (rest.map fun v => v.category).sum ≤ W9) (hdg : decode c.code g.pc = .ok (.invokestatic index, 3))
    (hpre : ∀ vm₁, s.WarmedH vm₁ → Pre ⟨T.setVm vm₁, locs, cells, slots⟩ argsL.toArray) :
    (∃ (v : Option Value) (vm₁ : Vm) (B : Pt), s.WarmedH vm₁ ∧ Stand p l e R s m args below meth c B.U B.locs B.cells B.slots ∧ Post ⟨T.setVm vm₁, locs, cells, slots⟩ argsL.toArray v B ∧
      ∀ target, Steps p.tables e below (B.U.setTop { g with pc := g.pc + 3, stack := v.toList ++ rest }) target → Steps p.tables e below (T.setTop g) target) ∨
    (∃ (q : Addr) (vm₁ : Vm) (B : Pt), s.WarmedH vm₁ ∧ Stand p l e R s m args below meth c B.U B.locs B.cells B.slots ∧ PostX ⟨T.setVm vm₁, locs, cells, slots⟩ argsL.toArray q B ∧
      Steps p.tables e below (T.setTop g) ((B.U.setTop { g with stack := rest }).pushFrame (.throwing q))) := by
  obtain ⟨mk, methM, cM, hnamed, hmethM, -, -, -, -, -, -, hsigM⟩ := Cond.codeWith_spec hcode
  have hstatic : methM.isStatic = true := Cond.static_spec hnamed hmethM hstat
  obtain ⟨kP, hkP, -⟩ := className_of_methodNamed hnamed
  have hinitP : kP.init = .initialized := Cond.initialized_spec (findClass_of_methodNamed hnamed) hkP hinit
  obtain ⟨vm₁, X₁, hstep₁⟩ := X.invokestatic hexec hown hlink hnamed hmethM hstatic hkP hinitP hy (g := g) hg (argsL := argsL) (rest := rest) (hlen _ hsigM) hstack hdg
  rcases hK m meth c ⟨T.setVm vm₁, locs, cells, slots⟩ { g with stack := rest } (.invokestatic index) mk argsL.toArray X₁ hg hsize hdg hW (X₁.named hnamed) (hpre vm₁ X₁.warmed) with ⟨v, B, X', hpost, hsteps⟩ | ⟨q, B, X', hpost, hsteps⟩
  · exact Or.inl ⟨v, vm₁, B, X₁.warmed, X', hpost, fun target h => hstep₁ _ fun acts => by rw [doInvoke_state]; exact hsteps.trans h⟩
  · exact Or.inr ⟨q, vm₁, B, X₁.warmed, X', hpost, hstep₁ _ fun acts => by rw [doInvoke_state]; exact hsteps⟩
theorem vx_callVW (X : Stand p l e R s m args below meth c T locs cells slots) (hexec : p.tables.exec = Jvm.exec) {own C : String} {index : Nat} {y : MethodName} {bytes : ByteArray} {maxL : Nat} {ret : Option FieldType} {hh : List (Nat × Nat × Nat × Nat)}
    (hown : s.vm.findClass own = some m.cls) (hlink : (Cond.methodLink own index y).before args s = true) (hinst : (Cond.instanceMethod y).before args s = true) (hsel : (Cond.selects C y y).before args s = true)
    (hcode : (Cond.codeWith y bytes maxL ret hh).before args s = true) (hy : y.cls ≠ "java/lang/invoke/MethodHandle" ∧ y.cls ≠ "java/lang/invoke/VarHandle")
    {W9 : Nat} {Pre : Pt → Array Value → Prop} {Post : Pt → Array Value → Option Value → Pt → Prop} (hK : Back l R p e below s args y 3 W9 Pre Post)
    {b : Addr} {cellB : Cell} (hcell : T.heap[b]? = some cellB) (hobj : cellB.vm.isStatics = false) (hcls : s.vm.findClass C = some cellB.cls)
    {g : JFrame} (hg : g.method = m) (hsize : g.locals.size = c.maxLocals) {argsL rest : List Value} (hlen : ∀ sig, parseMethodDescriptor y.desc = some sig → argsL.length = sig.parameters.length)
    (hstack : g.stack = argsL.reverse ++ .ref b :: rest) (hW : 2 * g.monitorRoom + (rest.map fun v => v.category).sum ≤ W9) (hdg : decode c.code g.pc = .ok (.invokevirtual index, 3))
    (hpre : ∀ vm₁, s.WarmedH vm₁ → Pre ⟨T.setVm vm₁, locs, cells, slots⟩ (Value.ref b :: argsL).toArray) :
    ∃ (v : Option Value) (vm₁ : Vm) (B : Pt), s.WarmedH vm₁ ∧ Stand p l e R s m args below meth c B.U B.locs B.cells B.slots ∧ Post ⟨T.setVm vm₁, locs, cells, slots⟩ (Value.ref b :: argsL).toArray v B ∧
      ∀ target, Steps p.tables e below (B.U.setTop { g with pc := g.pc + 3, stack := v.toList ++ rest }) target → Steps p.tables e below (T.setTop g) target := by
  obtain ⟨mk, methM, hnamed, hmethM, hstM, habM⟩ := Cond.instanceMethod_spec hinst
  obtain ⟨m8, methM', cM, hn8, hmethM', -, -, -, -, -, -, hsigM⟩ := Cond.codeWith_spec hcode
  cases Option.some.inj (hn8.symm.trans hnamed)
  cases hmethM.symm.trans hmethM'
  obtain ⟨c2, r2, m2, q1, q2, q3, q4, kP, hkP, hkPi⟩ := Cond.selects_spec hsel
  cases hcls.symm.trans q1
  cases (State.methodFound?_of_named hnamed hy).symm.trans q2
  cases hnamed.symm.trans q3
  have hselP : selectMethod e.platform s.vm cellB.cls mk = .method mk := by rw [Launch.admits_selectMethod X.admits]; exact q4
  obtain ⟨vm₁, X₁, hstep₁⟩ := X.invokevirtual hexec hown hlink hnamed hmethM hstM hkP hkPi hy (a := b) (cell := cellB) hcell
    (fun z h => by rw [h] at hobj; cases hobj) hselP hmethM habM hkP hkPi (g := g) hg (argsL := argsL) (rest := rest) (hlen _ hsigM) hstack hdg
  obtain ⟨v, B, X', hpost, hsteps⟩ := hK m meth c ⟨T.setVm vm₁, locs, cells, slots⟩ { g with stack := rest } (.invokevirtual index) mk (Value.ref b :: argsL).toArray X₁ hg hsize hdg hW (X₁.named hnamed) (hpre vm₁ X₁.warmed)
  exact ⟨v, vm₁, B, X₁.warmed, X', hpost, fun target h => hstep₁ _ fun acts => by rw [doInvoke_state]; exact hsteps.trans h⟩
abbrev vx_CVW (R : Room) (s : State) (args : Array Value) (own C : String) (index : Nat) (y : MethodName) (bytes : ByteArray) (maxL : Nat) (ret : Option FieldType) (hh : List (Nat × Nat × Nat × Nat)) (ws : List Cond) (rm : Room) (mc ms n : Nat) : Prop :=
  (rm.cells = mc ∧ rm.slots = ms ∧ rm.frames + 1 ≤ R.frames ∧ 8 + (maxL + 11) + rm.locals ≤ R.locals ∧ (∀ w ∈ ws, ∀ (a' : Array Value) (U : State), s.WarmedH U.vm → w.before a' U = true) ∧ Cond.codeWith y bytes maxL ret hh ∈ ws) ∧
  (Cond.codeWith y bytes maxL ret hh).before args s = true ∧ (Cond.initialized y.cls).before args s = true ∧ (y.cls ≠ "java/lang/invoke/MethodHandle" ∧ y.cls ≠ "java/lang/invoke/VarHandle") ∧
  (∀ sig, parseMethodDescriptor y.desc = some sig → n = sig.parameters.length) ∧ (Cond.methodLink own index y).before args s = true ∧ (Cond.instanceMethod y).before args s = true ∧ (Cond.selects C y y).before args s = true
theorem vx_cwVW {own C : String} {index maxL mc ms : Nat} {y : MethodName} {bytes : ByteArray} {ret : Option FieldType} {hh : List (Nat × Nat × Nat × Nat)} {Ts ws ws' : List Cond} {rm : Room} (n : Nat) (ht : ∀ w ∈ Ts, w.before args s = true) (hT : GoodIn Ts (wsV own index C y ws)) (hw : ws = Cond.codeWith y bytes maxL ret hh :: ws') (hrc : rm.cells = mc) (hrs : rm.slots = ms)
    (hd : y.cls = C ∧ y.cls ≠ "java/lang/invoke/MethodHandle" ∧ y.cls ≠ "java/lang/invoke/VarHandle" ∧ (parseMethodDescriptor y.desc).map (fun d => d.parameters.length) = some n) (hR : rm.frames + 1 ≤ R.frames ∧ 8 + (maxL + 11) + rm.locals ≤ R.locals) :
    vx_CVW R s args own C index y bytes maxL ret hh ws rm mc ms n := by
  obtain ⟨hC, hd⟩ := hd
  subst hC
  have ok : ∀ w ∈ wsV own index y.cls y ws, w.before args s = true := fun w h => ht w (hT w h).1
  have hG : GoodIn Ts ws := fun w h => hT w (by unfold wsV; exact List.mem_append_right _ h)
  have hc : Cond.codeWith y bytes maxL ret hh ∈ ws := by rw [hw]; exact List.mem_cons_self
  refine ⟨⟨hrc, hrs, hR.1, hR.2, pay_in ht hG, hc⟩, ht _ (hG _ hc).1, ok _ (by simp [wsV]), ⟨hd.1, hd.2.1⟩, fun sig h => ?_, ok _ (by simp [wsV]), ok _ (by simp [wsV]), ok _ (by simp [wsV])⟩
  have h2 := hd.2.2
  rw [h] at h2
  exact (Option.some.inj h2).symm
theorem vx_runVW {y : MethodName} {bytes cc : ByteArray} {maxL nL mc ms n index : Nat} {ret : Option FieldType} {hh : List (Nat × Nat × Nat × Nat)} {ws : List Cond} {rm : Room} {Pc : Array Value → State → Prop} {Qc : Array Value → State → Outcome → State → Prop} {free : Addr → Prop} {Ts : List Cond} {own C : String} {b : Addr} {As rest : List Value} {g : JFrame}
    (S : CallFix p m c cc nL s args Ts own) (hM : Met l y ws rm Pc Qc mc ms free) (cw : vx_CVW R s args own C index y bytes maxL ret hh ws rm mc ms n) (hp : PreV s H C b Pc As)
    (hg : g.method = m) (hn : As.length = n) (hsize : g.locals.size = nL) (hstack : g.stack = As.reverse ++ .ref b :: rest) (hW : 2 * g.monitorRoom + (rest.map fun v => v.category).sum ≤ 8) (hdg : decode cc g.pc = .ok (.invokevirtual index, 3)) (hf : cells + mc ≤ R.cells ∧ slots + ms ≤ R.slots) :
    va_Run p l e R s m args below meth c H locs cells slots mc ms g rest (Qc (Value.ref b :: As).toArray) free := by
  obtain ⟨⟨hrc, hrs, hfr, hlo, hws, hcw⟩, hcode, hini, hy, hlen, hl, hin, hse⟩ := cw
  have hK : Back l R p e below s args y 3 8 (PreOf R mc ms Pc) (PostOf Qc mc ms free) := va_backW (hh := hh) (bytes := bytes) (maxL := maxL) (ret := ret) hM hp.1 hrc hrs hfr hlo hws hcw (fun a' U hW => word_at hW (Or.inl (by first | rfl | simp [Cond.onTables, Cond.keeps, Cond.steady])) hini)
  obtain ⟨hx, hb, hml, ho, -⟩ := S
  obtain ⟨-, ⟨cellB, hcB, hoB, hclB⟩, hPc⟩ := hp
  intro T hT X
  obtain ⟨v, vm₁, ⟨U', l2, c2, s2⟩, hW₁, X', ⟨g', mk, t, L, e1, e2, hq, h1, hL, h2, h3⟩, st⟩ := vx_callVW X hx (C := C) (hh := hh) (bytes := bytes) (maxL := maxL) (ret := ret) ho hl hin hse hcode hy hK (by rw [hT]; exact hcB) hoB hclB hg (hsize.trans hml.symm) (argsL := As) (rest := rest) (fun sig h => hn.trans (hlen sig h)) hstack hW (by rw [hb]; exact hdg)
    (fun vm₁ hW₁ => ⟨hf.1, hf.2, hPc (T.setVm vm₁) hT hW₁⟩)
  dsimp only [Pt.U, Pt.locs, Pt.cells, Pt.slots] at X' e1 e2 h1 h2 h3 st
  subst h1; subst h2; subst h3
  exact ⟨v, (T.setVm vm₁).calling g' mk (Value.ref b :: As).toArray, t, U', L, hT, X', hL, e1, e2, hq, st⟩
section
variable {y : MethodName} {bytes cc : ByteArray} {maxL nL mc ms n index : Nat} {ret : Option FieldType} {ws : List Cond} {rm : Room} {Pc : Array Value → State → Prop} {Qc : Array Value → State → Outcome → State → Prop} {XC : String → State → State → Prop} {free : Addr → Prop} {Ts : List Cond} {own C : String} {b : Addr} {As rest : List Value} {g : JFrame}
theorem vx_runVX {hh : List (Nat × Nat × Nat × Nat)} (S : CallFix p m c cc nL s args Ts own) (hM : vx_Met l y ws rm Pc Qc XC mc ms free) (cw : vx_CVW R s args own C index y bytes maxL ret hh ws rm mc ms n) (hp : PreV s H C b Pc As)
    (hg : g.method = m) (hn : As.length = n) (hsize : g.locals.size = nL) (hstack : g.stack = As.reverse ++ .ref b :: rest) (hW : 2 * g.monitorRoom + (rest.map fun v => v.category).sum ≤ 8) (hdg : decode cc g.pc = .ok (.invokevirtual index, 3)) (hf : cells + mc ≤ R.cells ∧ slots + ms ≤ R.slots) :
    vx_Run p l e R s m args below meth c H locs cells slots mc ms g rest (Qc (Value.ref b :: As).toArray) XC free := by
  obtain ⟨⟨hrc, hrs, hfr, hlo, hws, hcw⟩, hcode, hini, hy, hlen, hl, hin, hse⟩ := cw
  have hK : vx_Back l R p e below s args y 3 8 (PreOf R mc ms Pc) (PostOf Qc mc ms free) (vx_Post XC mc ms free) := vx_backW (hh := hh) (bytes := bytes) (maxL := maxL) (ret := ret) hM hp.1 hrc hrs hfr hlo hws hcw (fun a' U hW => word_at hW (Or.inl (by first | rfl | simp [Cond.onTables, Cond.keeps, Cond.steady])) hini)
  obtain ⟨hx, hb, hml, ho, -⟩ := S
  obtain ⟨-, ⟨cellB, hcB, hoB, hclB⟩, hPc⟩ := hp
  intro T hT X
  rcases vx_callVX X hx (C := C) (hh := hh) (bytes := bytes) (maxL := maxL) (ret := ret) ho hl hin hse hcode hy hK (by rw [hT]; exact hcB) hoB hclB hg (hsize.trans hml.symm) (argsL := As) (rest := rest) (fun sig h => hn.trans (hlen sig h)) hstack hW (by rw [hb]; exact hdg)
    (fun vm₁ hW₁ => ⟨hf.1, hf.2, hPc (T.setVm vm₁) hT hW₁⟩) with ⟨v, vm₁, ⟨U', l2, c2, s2⟩, hW₁, X', ⟨g', mk, t, L, e1, e2, hq, h1, hL, h2, h3⟩, st⟩ | ⟨q, vm₁, ⟨U', l2, c2, s2⟩, hW₁, X', ⟨g', mk, t, L, E, ce, e1, e2, hq, hce, hcv, hcl, h1, hL, h2, h3⟩, st⟩
  · dsimp only [Pt.U, Pt.locs, Pt.cells, Pt.slots] at X' e1 e2 h1 h2 h3 st
    subst h1; subst h2; subst h3
    exact Or.inl ⟨v, (T.setVm vm₁).calling g' mk (Value.ref b :: As).toArray, t, U', L, hT, X', hL, e1, e2, hq, st⟩
  · dsimp only [Pt.U, Pt.locs, Pt.cells, Pt.slots] at X' e1 e2 h1 h2 h3 st hcl
    subst h1; subst h2; subst h3
    exact Or.inr ⟨q, (T.setVm vm₁).calling g' mk (Value.ref b :: As).toArray, t, U', L, E, ce, hT, X', hL, e1, e2, hq, hce, hcv, vx_cls hW₁ hcl, st⟩
theorem vx_runSX {hh : List (Nat × Nat × Nat × Nat)} (S : CallFix p m c cc nL s args Ts own) (hM : vx_Met l y ws rm Pc Qc XC mc ms free) (cw : vx_CSW R s args own index y bytes maxL ret hh ws rm mc ms n) (hp : PreS s H Pc As)
    (hg : g.method = m) (hn : As.length = n) (hsize : g.locals.size = nL) (hstack : g.stack = As.reverse ++ rest) (hW : 2 * g.monitorRoom + (rest.map fun v => v.category).sum ≤ 8) (hdg : decode cc g.pc = .ok (.invokestatic index, 3)) (hf : cells + mc ≤ R.cells ∧ slots + ms ≤ R.slots) :
    vx_Run p l e R s m args below meth c H locs cells slots mc ms g rest (Qc As.toArray) XC free := by
  obtain ⟨⟨hrc, hrs, hfr, hlo, hws, hcw⟩, hcode, hini, hy, hlen, hl, hstt⟩ := cw
  have hK : vx_Back l R p e below s args y 3 8 (PreOf R mc ms Pc) (PostOf Qc mc ms free) (vx_Post XC mc ms free) := vx_backW (hh := hh) (bytes := bytes) (maxL := maxL) (ret := ret) hM hp.1 hrc hrs hfr hlo hws hcw (fun a' U hW => word_at hW (Or.inl (by first | rfl | simp [Cond.onTables, Cond.keeps, Cond.steady])) hini)
  obtain ⟨hx, hb, hml, ho, -⟩ := S
  intro T hT X
  rcases vx_callSX X hx (hh := hh) (bytes := bytes) (maxL := maxL) (ret := ret) ho hl hstt hini hcode hy hK hg (hsize.trans hml.symm) (argsL := As) (rest := rest) (fun sig h => hn.trans (hlen sig h)) hstack hW (by rw [hb]; exact hdg)
    (fun vm₁ hW₁ => ⟨hf.1, hf.2, hp.2 (T.setVm vm₁) hT hW₁⟩) with ⟨v, vm₁, ⟨U', l2, c2, s2⟩, hW₁, X', ⟨g', mk, t, L, e1, e2, hq, h1, hL, h2, h3⟩, st⟩ | ⟨q, vm₁, ⟨U', l2, c2, s2⟩, hW₁, X', ⟨g', mk, t, L, E, ce, e1, e2, hq, hce, hcv, hcl, h1, hL, h2, h3⟩, st⟩
  · dsimp only [Pt.U, Pt.locs, Pt.cells, Pt.slots] at X' e1 e2 h1 h2 h3 st
    subst h1; subst h2; subst h3
    exact Or.inl ⟨v, (T.setVm vm₁).calling g' mk As.toArray, t, U', L, hT, X', hL, e1, e2, hq, st⟩
  · dsimp only [Pt.U, Pt.locs, Pt.cells, Pt.slots] at X' e1 e2 h1 h2 h3 st hcl
    subst h1; subst h2; subst h3
    exact Or.inr ⟨q, (T.setVm vm₁).calling g' mk As.toArray, t, U', L, E, ce, hT, X', hL, e1, e2, hq, hce, hcv, vx_cls hW₁ hcl, st⟩
end
end VXH
theorem vx_ofWH {l : Launch} {y : MethodName} {ws ws' : List Cond} {rm : Room} {Pc : Array Value → State → Prop} {Qc : Array Value → State → Outcome → State → Prop} {XC : String → State → State → Prop} {mc ms : Nat} {free : Addr → Prop} {cc : ByteArray} {maxL : Nat} {ret : Option FieldType} {hh : List (Nat × Nat × Nat × Nat)}
    (hy : plainName y.cls = true) (hw : ws = Cond.codeWith y cc maxL ret hh :: ws')
    (body : ∀ p e s m args below meth c s₁, BodyLoose p l y (headSpec ws rm) cc maxL ret e s m args below meth c s₁ → c.maxLocals = maxL → Pc args s →
      W p l e (headSpec ws rm).room s m args below meth c s.heap [] 0 0 (vx_MQ below Qc XC args s mc ms free) (entryFrame m args maxL)) : vx_Met l y ws rm Pc Qc XC mc ms free := by
  refine MetFree.of_bodyS (code := cc) (maxLocals := maxL) (ret := ret) hy ?_ ?_
  · intro args s m h hn
    obtain ⟨m9, meth, c, hn9, h1, h2, h3, h4, -, h5, h6, -⟩ := Cond.codeWith_spec (atoms_spec (ws := ws) h _ (by rw [hw]; exact List.mem_cons_self))
    cases hn.symm.trans hn9
    exact ⟨meth, c, h1, h2, h3, h4, h5, h6⟩
  · intro p e s m args below meth c s₁ B hml hP _
    have hh0 : s₁.heap = s.heap := by rw [B.state]; rfl
    obtain ⟨t, a1, o, b1, b2, b3⟩ := body p e s m args below meth c s₁ B hml hP s₁ hh0 (Stand.of_body B)
    exact ⟨t, o, a1, b1, b2, b3⟩
/-! ===== END ===== -/
end
section
def RX0 : String := "LeastRows$Cutter"
def TX0 : u_T := fun k => match k with
  | 0 => ("LeastRows$Cutter", "state", "LLeastRows$State;", true)
  | 1 => ("LeastRows$Cutter", "least", "[I", true)
  | 2 => ("LeastRows$Cutter", "lastCut", "[I", true)
  | 3 => ("LeastRows$Cutter", "firstTogether", "[I", true)
  | _ => ("LeastRows$Cutter", "tried", "[I", true)
def tyX0 : Nat → FieldType := fun k => match k with
  | 0 => .object "LeastRows$State"
  | 1 => .array .int
  | 2 => .array .int
  | 3 => .array .int
  | _ => .array .int
abbrev wsX00 : List Cond := u_ws RX0 TX0 5
theorem nmX0 : ∀ a, a < 5 → ∀ b, b < 5 → a ≠ b → (TX0 a).2.1 ≠ (TX0 b).2.1 := by decide +kernel
theorem tyX0_ok : ∀ k, k < 5 → parseFieldDescriptor (TX0 k).2.2.1 = some (tyX0 k) := by decide +kernel
abbrev cX0_init : ByteArray := prog_2_method_1_code
def yX0_init : MethodName := ⟨RX0, "<init>", "(LLeastRows$State;)V"⟩
abbrev cX0_planCuts : ByteArray := prog_2_method_2_code
def yX0_planCuts : MethodName := ⟨RX0, "planCuts", "()V"⟩
abbrev cX0_plannedCost : ByteArray := prog_2_method_3_code
def yX0_plannedCost : MethodName := ⟨RX0, "plannedCost", "(I)I"⟩
abbrev cX0_plannedCut : ByteArray := prog_2_method_4_code
def yX0_plannedCut : MethodName := ⟨RX0, "plannedCut", "(II)I"⟩
abbrev cX0_fewestPartsFor : ByteArray := prog_2_method_5_code
def yX0_fewestPartsFor : MethodName := ⟨RX0, "fewestPartsFor", "(I)I"⟩
abbrev cX0_tryAllCuts : ByteArray := prog_2_method_6_code
def yX0_tryAllCuts : MethodName := ⟨RX0, "tryAllCuts", "()V"⟩
abbrev cX0_triedCost : ByteArray := prog_2_method_7_code
def yX0_triedCost : MethodName := ⟨RX0, "triedCost", "(I)I"⟩
abbrev cX0_planLastCut : ByteArray := prog_2_method_8_code
def yX0_planLastCut : MethodName := ⟨RX0, "planLastCut", "(II)V"⟩
abbrev cX0_tryNextPart : ByteArray := prog_2_method_9_code
def yX0_tryNextPart : MethodName := ⟨RX0, "tryNextPart", "(LLeastRows$Cutter;III)V"⟩
def RX1 : String := "LeastRows$Finder"
def TX1 : u_T := fun k => match k with
  | 0 => ("LeastRows$Finder", "table", "LLeastRows$State;", true)
  | 1 => ("LeastRows$Finder", "places", "[I", true)
  | 2 => ("LeastRows$Finder", "looksMade", "[I", true)
  | 3 => ("LeastRows$Finder", "left", "[I", true)
  | 4 => ("LeastRows$Finder", "leftCount", "[I", true)
  | 5 => ("LeastRows$Finder", "way", "I", false)
  | _ => ("LeastRows$Finder", "looksNow", "I", false)
def tyX1 : Nat → FieldType := fun k => match k with
  | 0 => .object "LeastRows$State"
  | 1 => .array .int
  | 2 => .array .int
  | 3 => .array .int
  | 4 => .array .int
  | 5 => .int
  | _ => .int
abbrev wsX10 : List Cond := u_ws RX1 TX1 7
theorem nmX1 : ∀ a, a < 7 → ∀ b, b < 7 → a ≠ b → (TX1 a).2.1 ≠ (TX1 b).2.1 := by decide +kernel
theorem tyX1_ok : ∀ k, k < 7 → parseFieldDescriptor (TX1 k).2.2.1 = some (tyX1 k) := by decide +kernel
abbrev cX1_init : ByteArray := prog_3_method_1_code
def yX1_init : MethodName := ⟨RX1, "<init>", "(LLeastRows$State;)V"⟩
abbrev cX1_seek : ByteArray := prog_3_method_2_code
def yX1_seek : MethodName := ⟨RX1, "seek", "(I)V"⟩
abbrev cX1_looksBy : ByteArray := prog_3_method_4_code
def yX1_looksBy : MethodName := ⟨RX1, "looksBy", "(I)I"⟩
abbrev cX1_placeBy : ByteArray := prog_3_method_5_code
def yX1_placeBy : MethodName := ⟨RX1, "placeBy", "(II)I"⟩
abbrev cX1_placesGoneBack : ByteArray := prog_3_method_6_code
def yX1_placesGoneBack : MethodName := ⟨RX1, "placesGoneBack", "()I"⟩
abbrev cX1_shareOfHalves : ByteArray := prog_3_method_7_code
def yX1_shareOfHalves : MethodName := ⟨RX1, "shareOfHalves", "()D"⟩
abbrev cX1_leaveAllColumns : ByteArray := prog_3_method_8_code
def yX1_leaveAllColumns : MethodName := ⟨RX1, "leaveAllColumns", "()V"⟩
abbrev cX1_lookAtAll : ByteArray := prog_3_method_9_code
def yX1_lookAtAll : MethodName := ⟨RX1, "lookAtAll", "()V"⟩
abbrev cX1_halve : ByteArray := prog_3_method_10_code
def yX1_halve : MethodName := ⟨RX1, "halve", "(LLeastRows$Finder;IIIII)V"⟩
abbrev cX1_rowsAt : ByteArray := prog_3_method_11_code
def yX1_rowsAt : MethodName := ⟨RX1, "rowsAt", "(I)I"⟩
abbrev cX1_rowAt : ByteArray := prog_3_method_12_code
def yX1_rowAt : MethodName := ⟨RX1, "rowAt", "(II)I"⟩
abbrev cX1_columnLeft : ByteArray := prog_3_method_13_code
def yX1_columnLeft : MethodName := ⟨RX1, "columnLeft", "(II)I"⟩
abbrev cX1_pileColumns : ByteArray := prog_3_method_14_code
def yX1_pileColumns : MethodName := ⟨RX1, "pileColumns", "(I)V"⟩
abbrev cX1_heightAfterThrowing : ByteArray := prog_3_method_15_code
def yX1_heightAfterThrowing : MethodName := ⟨RX1, "heightAfterThrowing", "(III)I"⟩
abbrev cX1_fillBetween : ByteArray := prog_3_method_16_code
def yX1_fillBetween : MethodName := ⟨RX1, "fillBetween", "(I)V"⟩
abbrev cX1_leftmostLeast : ByteArray := prog_3_method_17_code
def yX1_leftmostLeast : MethodName := ⟨RX1, "leftmostLeast", "(IIII)I"⟩
abbrev cX1_look : ByteArray := prog_3_method_18_code
def yX1_look : MethodName := ⟨RX1, "look", "(II)I"⟩
abbrev cX1_setPlace : ByteArray := prog_3_method_19_code
def yX1_setPlace : MethodName := ⟨RX1, "setPlace", "(II)V"⟩
def RX2 : String := "LeastRows$History"
def TX2 : u_T := fun k => match k with
  | 0 => ("LeastRows$History", "count", "I", false)
  | 1 => ("LeastRows$History", "oldest", "I", false)
  | _ => ("LeastRows$History", "saved", "[LLeastRows$State;", true)
def tyX2 : Nat → FieldType := fun k => match k with
  | 0 => .int
  | 1 => .int
  | _ => .array (.object "LeastRows$State")
abbrev wsX20 : List Cond := u_ws RX2 TX2 3
theorem nmX2 : ∀ a, a < 3 → ∀ b, b < 3 → a ≠ b → (TX2 a).2.1 ≠ (TX2 b).2.1 := by decide +kernel
theorem tyX2_ok : ∀ k, k < 3 → parseFieldDescriptor (TX2 k).2.2.1 = some (tyX2 k) := by decide +kernel
abbrev cX2_init : ByteArray := prog_4_method_1_code
def yX2_init : MethodName := ⟨RX2, "<init>", "()V"⟩
abbrev cX2_save : ByteArray := prog_4_method_2_code
def yX2_save : MethodName := ⟨RX2, "save", "(LLeastRows$State;)V"⟩
abbrev cX2_latest : ByteArray := prog_4_method_3_code
def yX2_latest : MethodName := ⟨RX2, "latest", "()LLeastRows$State;"⟩
abbrev cX2_stateAt : ByteArray := prog_4_method_4_code
def yX2_stateAt : MethodName := ⟨RX2, "stateAt", "(I)LLeastRows$State;"⟩
def RX3 : String := "LeastRows$Rule"
def TX3 : u_T := fun k => match k with
  | 0 => ("LeastRows$Rule", "row", "I", false)
  | 1 => ("LeastRows$Rule", "left", "I", false)
  | 2 => ("LeastRows$Rule", "right", "I", false)
  | 3 => ("LeastRows$Rule", "witnesses", "I", false)
  | _ => ("LeastRows$Rule", "table", "LLeastRows$State;", true)
def tyX3 : Nat → FieldType := fun k => match k with
  | 0 => .int
  | 1 => .int
  | 2 => .int
  | 3 => .int
  | _ => .object "LeastRows$State"
abbrev wsX30 : List Cond := u_ws RX3 TX3 5
theorem nmX3 : ∀ a, a < 5 → ∀ b, b < 5 → a ≠ b → (TX3 a).2.1 ≠ (TX3 b).2.1 := by decide +kernel
theorem tyX3_ok : ∀ k, k < 5 → parseFieldDescriptor (TX3 k).2.2.1 = some (tyX3 k) := by decide +kernel
abbrev cX3_init : ByteArray := prog_5_method_1_code
def yX3_init : MethodName := ⟨RX3, "<init>", "(LLeastRows$State;)V"⟩
abbrev cX3_isKept : ByteArray := prog_5_method_2_code
def yX3_isKept : MethodName := ⟨RX3, "isKept", "()Z"⟩
abbrev cX3_examine : ByteArray := prog_5_method_3_code
def yX3_examine : MethodName := ⟨RX3, "examine", "()V"⟩
abbrev cX3_told : ByteArray := prog_5_method_4_code
def yX3_told : MethodName := ⟨RX3, "told", "(I)I"⟩
abbrev cX3_isGreater : ByteArray := prog_5_method_5_code
def yX3_isGreater : MethodName := ⟨RX3, "isGreater", "(III)Z"⟩
abbrev cX3_note : ByteArray := prog_5_method_6_code
def yX3_note : MethodName := ⟨RX3, "note", "(III)V"⟩
def RX4 : String := "LeastRows$Slot"
def TX4 : u_T := fun k => match k with
  | 0 => ("LeastRows$Slot", "isFilled", "Z", false)
  | _ => ("LeastRows$Slot", "snapshot", "LLeastRows$State;", true)
def tyX4 : Nat → FieldType := fun k => match k with
  | 0 => .boolean
  | _ => .object "LeastRows$State"
abbrev wsX40 : List Cond := u_ws RX4 TX4 2
theorem nmX4 : ∀ a, a < 2 → ∀ b, b < 2 → a ≠ b → (TX4 a).2.1 ≠ (TX4 b).2.1 := by decide +kernel
theorem tyX4_ok : ∀ k, k < 2 → parseFieldDescriptor (TX4 k).2.2.1 = some (tyX4 k) := by decide +kernel
abbrev cX4_init : ByteArray := prog_6_method_1_code
def yX4_init : MethodName := ⟨RX4, "<init>", "()V"⟩
abbrev cX4_fillFrom : ByteArray := prog_6_method_2_code
def yX4_fillFrom : MethodName := ⟨RX4, "fillFrom", "(LLeastRows$State;)V"⟩
def RX5 : String := "LeastRows$State"
def TX5 : u_T := fun k => match k with
  | 0 => ("LeastRows$State", "rows", "I", false)
  | 1 => ("LeastRows$State", "columns", "I", false)
  | 2 => ("LeastRows$State", "weightCount", "I", false)
  | 3 => ("LeastRows$State", "looksCounted", "I", false)
  | 4 => ("LeastRows$State", "timesFound", "I", false)
  | 5 => ("LeastRows$State", "timesMended", "I", false)
  | 6 => ("LeastRows$State", "cells", "[I", true)
  | _ => ("LeastRows$State", "weights", "[I", true)
def tyX5 : Nat → FieldType := fun k => match k with
  | 0 => .int
  | 1 => .int
  | 2 => .int
  | 3 => .int
  | 4 => .int
  | 5 => .int
  | 6 => .array .int
  | _ => .array .int
abbrev wsX50 : List Cond := u_ws RX5 TX5 8
theorem nmX5 : ∀ a, a < 8 → ∀ b, b < 8 → a ≠ b → (TX5 a).2.1 ≠ (TX5 b).2.1 := by decide +kernel
theorem tyX5_ok : ∀ k, k < 8 → parseFieldDescriptor (TX5 k).2.2.1 = some (tyX5 k) := by decide +kernel
abbrev cX5_init : ByteArray := prog_7_method_1_code
def yX5_init : MethodName := ⟨RX5, "<init>", "()V"⟩
abbrev cX5_hasCell : ByteArray := prog_7_method_2_code
def yX5_hasCell : MethodName := ⟨RX5, "hasCell", "(II)Z"⟩
abbrev cX5_sizeCode : ByteArray := prog_7_method_3_code
def yX5_sizeCode : MethodName := ⟨RX5, "sizeCode", "()I"⟩
abbrev cX5_numberAt : ByteArray := prog_7_method_4_code
def yX5_numberAt : MethodName := ⟨RX5, "numberAt", "(II)I"⟩
abbrev cX5_setNumber : ByteArray := prog_7_method_5_code
def yX5_setNumber : MethodName := ⟨RX5, "setNumber", "(III)V"⟩
abbrev cX5_weightAt : ByteArray := prog_7_method_6_code
def yX5_weightAt : MethodName := ⟨RX5, "weightAt", "(I)I"⟩
abbrev cX5_addWeight : ByteArray := prog_7_method_7_code
def yX5_addWeight : MethodName := ⟨RX5, "addWeight", "(I)V"⟩
abbrev cX5_weightsTogether : ByteArray := prog_7_method_8_code
def yX5_weightsTogether : MethodName := ⟨RX5, "weightsTogether", "()I"⟩
abbrev cX5_copyFrom : ByteArray := prog_7_method_9_code
def yX5_copyFrom : MethodName := ⟨RX5, "copyFrom", "(LLeastRows$State;)V"⟩
def RX6 : String := "LeastRows$Text"
def TX6 : u_T := fun k => match k with
  | 0 => ("LeastRows$Text", "length", "I", false)
  | 1 => ("LeastRows$Text", "codes", "[I", true)
  | 2 => ("LeastRows$Text", "numbers", "[I", true)
  | 3 => ("LeastRows$Text", "row", "I", false)
  | 4 => ("LeastRows$Text", "column", "I", false)
  | 5 => ("LeastRows$Text", "columnsOfFirst", "I", false)
  | 6 => ("LeastRows$Text", "digits", "I", false)
  | _ => ("LeastRows$Text", "number", "I", false)
def tyX6 : Nat → FieldType := fun k => match k with
  | 0 => .int
  | 1 => .array .int
  | 2 => .array .int
  | 3 => .int
  | 4 => .int
  | 5 => .int
  | 6 => .int
  | _ => .int
abbrev wsX60 : List Cond := u_ws RX6 TX6 8
theorem nmX6 : ∀ a, a < 8 → ∀ b, b < 8 → a ≠ b → (TX6 a).2.1 ≠ (TX6 b).2.1 := by decide +kernel
theorem tyX6_ok : ∀ k, k < 8 → parseFieldDescriptor (TX6 k).2.2.1 = some (tyX6 k) := by decide +kernel
abbrev cX6_init : ByteArray := prog_8_method_1_code
def yX6_init : MethodName := ⟨RX6, "<init>", "()V"⟩
abbrev cX6_add : ByteArray := prog_8_method_2_code
def yX6_add : MethodName := ⟨RX6, "add", "(I)V"⟩
abbrev cX6_clear : ByteArray := prog_8_method_3_code
def yX6_clear : MethodName := ⟨RX6, "clear", "()V"⟩
abbrev cX6_codeAt : ByteArray := prog_8_method_4_code
def yX6_codeAt : MethodName := ⟨RX6, "codeAt", "(I)I"⟩
abbrev cX6_readToError : ByteArray := prog_8_method_5_code
def yX6_readToError : MethodName := ⟨RX6, "readToError", "()I"⟩
abbrev cX6_tellsTable : ByteArray := prog_8_method_6_code
def yX6_tellsTable : MethodName := ⟨RX6, "tellsTable", "()Z"⟩
abbrev cX6_rowsTold : ByteArray := prog_8_method_7_code
def yX6_rowsTold : MethodName := ⟨RX6, "rowsTold", "()I"⟩
abbrev cX6_columnsTold : ByteArray := prog_8_method_8_code
def yX6_columnsTold : MethodName := ⟨RX6, "columnsTold", "()I"⟩
abbrev cX6_numberTold : ByteArray := prog_8_method_9_code
def yX6_numberTold : MethodName := ⟨RX6, "numberTold", "(II)I"⟩
abbrev cX6_takes : ByteArray := prog_8_method_10_code
def yX6_takes : MethodName := ⟨RX6, "takes", "(I)Z"⟩
abbrev cX6_takesDigit : ByteArray := prog_8_method_11_code
def yX6_takesDigit : MethodName := ⟨RX6, "takesDigit", "(I)Z"⟩
abbrev cX6_takesComma : ByteArray := prog_8_method_12_code
def yX6_takesComma : MethodName := ⟨RX6, "takesComma", "()Z"⟩
abbrev cX6_takesSlash : ByteArray := prog_8_method_13_code
def yX6_takesSlash : MethodName := ⟨RX6, "takesSlash", "()Z"⟩
abbrev cX6_isRowFull : ByteArray := prog_8_method_14_code
def yX6_isRowFull : MethodName := ⟨RX6, "isRowFull", "()Z"⟩
def RX7 : String := "LeastRows"
def TX7 : u_T := fun k => match k with
  | 0 => ("LeastRows", "now", "LLeastRows$State;", true)
  | 1 => ("LeastRows", "rule", "LLeastRows$Rule;", true)
  | 2 => ("LeastRows", "finder", "LLeastRows$Finder;", true)
  | 3 => ("LeastRows", "cutter", "LLeastRows$Cutter;", true)
  | 4 => ("LeastRows", "text", "LLeastRows$Text;", true)
  | 5 => ("LeastRows", "history", "LLeastRows$History;", true)
  | 6 => ("LeastRows", "slotZero", "LLeastRows$Slot;", true)
  | _ => ("LeastRows", "slotOne", "LLeastRows$Slot;", true)
def tyX7 : Nat → FieldType := fun k => match k with
  | 0 => .object "LeastRows$State"
  | 1 => .object "LeastRows$Rule"
  | 2 => .object "LeastRows$Finder"
  | 3 => .object "LeastRows$Cutter"
  | 4 => .object "LeastRows$Text"
  | 5 => .object "LeastRows$History"
  | 6 => .object "LeastRows$Slot"
  | _ => .object "LeastRows$Slot"
abbrev wsX70 : List Cond := u_ws RX7 TX7 8
theorem nmX7 : ∀ a, a < 8 → ∀ b, b < 8 → a ≠ b → (TX7 a).2.1 ≠ (TX7 b).2.1 := by decide +kernel
theorem tyX7_ok : ∀ k, k < 8 → parseFieldDescriptor (TX7 k).2.2.1 = some (tyX7 k) := by decide +kernel
abbrev cX7_init : ByteArray := prog_1_method_1_code
def yX7_init : MethodName := ⟨RX7, "<init>", "()V"⟩
abbrev cX7_size : ByteArray := prog_1_method_2_code
def yX7_size : MethodName := ⟨RX7, "size", "(II)I"⟩
abbrev cX7_put : ByteArray := prog_1_method_3_code
def yX7_put : MethodName := ⟨RX7, "put", "(III)I"⟩
abbrev cX7_points : ByteArray := prog_1_method_4_code
def yX7_points : MethodName := ⟨RX7, "points", "(IIII)I"⟩
abbrev cX7_mend : ByteArray := prog_1_method_5_code
def yX7_mend : MethodName := ⟨RX7, "mend", "()I"⟩
abbrev cX7_find : ByteArray := prog_1_method_6_code
def yX7_find : MethodName := ⟨RX7, "find", "(I)I"⟩
abbrev cX7_weigh : ByteArray := prog_1_method_7_code
def yX7_weigh : MethodName := ⟨RX7, "weigh", "(I)I"⟩
abbrev cX7_unweigh : ByteArray := prog_1_method_8_code
def yX7_unweigh : MethodName := ⟨RX7, "unweigh", "()I"⟩
abbrev cX7_append : ByteArray := prog_1_method_9_code
def yX7_append : MethodName := ⟨RX7, "append", "(I)I"⟩
abbrev cX7_clearBuffer : ByteArray := prog_1_method_10_code
def yX7_clearBuffer : MethodName := ⟨RX7, "clearBuffer", "()I"⟩
abbrev cX7_firstError : ByteArray := prog_1_method_11_code
def yX7_firstError : MethodName := ⟨RX7, "firstError", "()I"⟩
abbrev cX7_load : ByteArray := prog_1_method_12_code
def yX7_load : MethodName := ⟨RX7, "load", "()I"⟩
abbrev cX7_keep : ByteArray := prog_1_method_13_code
def yX7_keep : MethodName := ⟨RX7, "keep", "(I)I"⟩
abbrev cX7_goBack : ByteArray := prog_1_method_14_code
def yX7_goBack : MethodName := ⟨RX7, "goBack", "(I)I"⟩
abbrev cX7_undo : ByteArray := prog_1_method_15_code
def yX7_undo : MethodName := ⟨RX7, "undo", "()I"⟩
abbrev cX7_cell : ByteArray := prog_1_method_16_code
def yX7_cell : MethodName := ⟨RX7, "cell", "(II)I"⟩
abbrev cX7_place : ByteArray := prog_1_method_17_code
def yX7_place : MethodName := ⟨RX7, "place", "(II)I"⟩
abbrev cX7_looks : ByteArray := prog_1_method_18_code
def yX7_looks : MethodName := ⟨RX7, "looks", "(I)I"⟩
abbrev cX7_bound : ByteArray := prog_1_method_19_code
def yX7_bound : MethodName := ⟨RX7, "bound", "()I"⟩
abbrev cX7_witness : ByteArray := prog_1_method_20_code
def yX7_witness : MethodName := ⟨RX7, "witness", "(I)I"⟩
abbrev cX7_count : ByteArray := prog_1_method_21_code
def yX7_count : MethodName := ⟨RX7, "count", "(I)I"⟩
abbrev cX7_weight : ByteArray := prog_1_method_22_code
def yX7_weight : MethodName := ⟨RX7, "weight", "(I)I"⟩
abbrev cX7_cost : ByteArray := prog_1_method_23_code
def yX7_cost : MethodName := ⟨RX7, "cost", "(II)I"⟩
abbrev cX7_cut : ByteArray := prog_1_method_24_code
def yX7_cut : MethodName := ⟨RX7, "cut", "(II)I"⟩
abbrev cX7_fewestParts : ByteArray := prog_1_method_25_code
def yX7_fewestParts : MethodName := ⟨RX7, "fewestParts", "(I)I"⟩
abbrev cX7_halfShare : ByteArray := prog_1_method_26_code
def yX7_halfShare : MethodName := ⟨RX7, "halfShare", "()D"⟩
abbrev cX7_isFromTo : ByteArray := prog_1_method_28_code
def yX7_isFromTo : MethodName := ⟨RX7, "isFromTo", "(III)Z"⟩
abbrev cX7_isWay : ByteArray := prog_1_method_29_code
def yX7_isWay : MethodName := ⟨RX7, "isWay", "(I)Z"⟩
abbrev cX7_isOpen : ByteArray := prog_1_method_30_code
def yX7_isOpen : MethodName := ⟨RX7, "isOpen", "(I)Z"⟩
abbrev cX7_slotAt : ByteArray := prog_1_method_31_code
def yX7_slotAt : MethodName := ⟨RX7, "slotAt", "(I)LLeastRows$Slot;"⟩
abbrev cX7_counted : ByteArray := prog_1_method_32_code
def yX7_counted : MethodName := ⟨RX7, "counted", "(I)I"⟩
abbrev cX7_numberIn : ByteArray := prog_1_method_39_code
def yX7_numberIn : MethodName := ⟨RX7, "numberIn", "([II)I"⟩
abbrev cX7_setIn : ByteArray := prog_1_method_40_code
def yX7_setIn : MethodName := ⟨RX7, "setIn", "([III)V"⟩
abbrev cX7_copyAll : ByteArray := prog_1_method_41_code
def yX7_copyAll : MethodName := ⟨RX7, "copyAll", "([I[I)V"⟩
def RX8 : String := "LeastRowsModel"
def TX8 : u_T := fun k => match k with
  | _ => ("", "", "", false)
def tyX8 : Nat → FieldType := fun k => match k with
  | _ => .int
abbrev wsX80 : List Cond := u_ws RX8 TX8 0
theorem nmX8 : ∀ a, a < 0 → ∀ b, b < 0 → a ≠ b → (TX8 a).2.1 ≠ (TX8 b).2.1 := by decide +kernel
theorem tyX8_ok : ∀ k, k < 0 → parseFieldDescriptor (TX8 k).2.2.1 = some (tyX8 k) := by decide +kernel
def RJ9 : String := "java/lang/Math"
def TJ9 : u_T := fun k => match k with
  | _ => ("", "", "", false)
def tyJ9 : Nat → FieldType := fun k => match k with
  | _ => .int
abbrev wsJ90 : List Cond := u_ws RJ9 TJ9 0
theorem nmJ9 : ∀ a, a < 0 → ∀ b, b < 0 → a ≠ b → (TJ9 a).2.1 ≠ (TJ9 b).2.1 := by decide +kernel
theorem tyJ9_ok : ∀ k, k < 0 → parseFieldDescriptor (TJ9 k).2.2.1 = some (tyJ9 k) := by decide +kernel
abbrev cJ9_min_7cf53 : ByteArray := prog_15_method_69_code
def yJ9_min_7cf53 : MethodName := ⟨RJ9, "min", "(II)I"⟩
def RJ0 : String := "java/lang/String"
def TJ0 : u_T := fun k => match k with
  | _ => ("", "", "", false)
def tyJ0 : Nat → FieldType := fun k => match k with
  | _ => .int
abbrev wsJ00 : List Cond := u_ws RJ0 TJ0 0
theorem nmJ0 : ∀ a, a < 0 → ∀ b, b < 0 → a ≠ b → (TJ0 a).2.1 ≠ (TJ0 b).2.1 := by decide +kernel
theorem tyJ0_ok : ∀ k, k < 0 → parseFieldDescriptor (TJ0 k).2.2.1 = some (tyJ0 k) := by decide +kernel
def RL : String := "LeastRowsLaw"
abbrev cL_part : ByteArray := method_2_code
def yL_part : MethodName := ⟨RL, "part", "(II)I"⟩
abbrev cL_drawn : ByteArray := method_3_code
def yL_drawn : MethodName := ⟨RL, "drawn", "([II)I"⟩
abbrev cL_call : ByteArray := method_4_code
def yL_call : MethodName := ⟨RL, "call", "(LLeastRows;IIIII)I"⟩
abbrev cL_seen : ByteArray := method_5_code
def yL_seen : MethodName := ⟨RL, "seen", "(LLeastRows;)J"⟩
abbrev cL_far : ByteArray := method_6_code
def yL_far : MethodName := ⟨RL, "far", "(III)I"⟩
abbrev cL_refusesOne : ByteArray := method_7_code
def yL_refusesOne : MethodName := ⟨RL, "refusesOne", "(LLeastRows;I)Z"⟩
abbrev cL_refused : ByteArray := method_8_code
def yL_refused : MethodName := ⟨RL, "refused", "(LLeastRows;)Z"⟩
abbrev cL_small : ByteArray := method_9_code
def yL_small : MethodName := ⟨RL, "small", "()Z"⟩
abbrev cL_weights : ByteArray := method_10_code
def yL_weights : MethodName := ⟨RL, "weights", "()Z"⟩
abbrev cL_types : ByteArray := method_11_code
def yL_types : MethodName := ⟨RL, "types", "(LLeastRows;J)Z"⟩
abbrev cL_isError : ByteArray := method_12_code
def yL_isError : MethodName := ⟨RL, "isError", "(LLeastRows;JJI)Z"⟩
abbrev cL_texts : ByteArray := method_13_code
def yL_texts : MethodName := ⟨RL, "texts", "()Z"⟩
abbrev cL_law : ByteArray := code
def yL_law : MethodName := ⟨RL, "law", "([I)Z"⟩
abbrev vwCl : List vw_C := [(RX0, TX0, 5), (RX1, TX1, 7), (RX2, TX2, 3), (RX3, TX3, 5), (RX4, TX4, 2), (RX5, TX5, 8), (RX6, TX6, 8), (RX7, TX7, 8)]
end
section
def TBG : List Cond := lw_tbl.filter goodWord
theorem TBG_in : ∀ w ∈ TBG, w ∈ lw_tbl := fun w h => (List.mem_filter.mp h).1
theorem TBG_gd {w : Cond} (h : w ∈ TBG) : (w.onTables && w.keeps) = true ∨ ∃ ty, w = .arrayClass ty := good_of_word (List.mem_filter.mp h).2
theorem tbq {w : Cond} (h : w ∈ tables_1) (g : goodWord w = true) : w ∈ TBG := List.mem_filter.mpr ⟨List.mem_append_right _ h, g⟩
theorem tbs {w : Cond} (h : w ∈ k2_sels lw_privs) (g : goodWord w = true) : w ∈ TBG := List.mem_filter.mpr ⟨List.mem_append_left _ h, g⟩
theorem tbt_1 {w : Cond} (h : w ∈ tables_1_1) (g : goodWord w = true) : w ∈ TBG := tbq (List.mem_append_left _ h) g
theorem tbl_1 {w : Cond} (h : w ∈ tables_1_1) : w ∈ lw_tbl := List.mem_append_right _ (List.mem_append_left _ h)
theorem tbt_2 {w : Cond} (h : w ∈ tables_1_2) (g : goodWord w = true) : w ∈ TBG := tbq (List.mem_append_right _ (List.mem_append_left _ h)) g
theorem tbl_2 {w : Cond} (h : w ∈ tables_1_2) : w ∈ lw_tbl := List.mem_append_right _ (List.mem_append_right _ (List.mem_append_left _ h))
theorem tbt_3 {w : Cond} (h : w ∈ tables_1_3) (g : goodWord w = true) : w ∈ TBG := tbq (List.mem_append_right _ (List.mem_append_right _ (List.mem_append_left _ h))) g
theorem tbl_3 {w : Cond} (h : w ∈ tables_1_3) : w ∈ lw_tbl := List.mem_append_right _ (List.mem_append_right _ (List.mem_append_right _ (List.mem_append_left _ h)))
theorem tbt_4 {w : Cond} (h : w ∈ tables_1_4) (g : goodWord w = true) : w ∈ TBG := tbq (List.mem_append_right _ (List.mem_append_right _ (List.mem_append_right _ (h)))) g
theorem tbl_4 {w : Cond} (h : w ∈ tables_1_4) : w ∈ lw_tbl := List.mem_append_right _ (List.mem_append_right _ (List.mem_append_right _ (List.mem_append_right _ (h))))
theorem q0 : (.initialized RL : Cond) ∈ TBG := tbt_1 (List.mem_of_getElem? (i := 0) rfl) rfl
theorem q1 : (.initialized RX7 : Cond) ∈ TBG := tbt_1 (List.mem_of_getElem? (i := 1) rfl) rfl
theorem q2 : (.initialized RX5 : Cond) ∈ TBG := tbt_1 (List.mem_of_getElem? (i := 2) rfl) rfl
theorem q3 : (.initialized RX3 : Cond) ∈ TBG := tbt_1 (List.mem_of_getElem? (i := 3) rfl) rfl
theorem q4 : (.initialized RX1 : Cond) ∈ TBG := tbt_1 (List.mem_of_getElem? (i := 4) rfl) rfl
theorem q5 : (.initialized RX0 : Cond) ∈ TBG := tbt_1 (List.mem_of_getElem? (i := 5) rfl) rfl
theorem q6 : (.initialized RX6 : Cond) ∈ TBG := tbt_1 (List.mem_of_getElem? (i := 6) rfl) rfl
theorem q7 : (.initialized RX2 : Cond) ∈ TBG := tbt_1 (List.mem_of_getElem? (i := 7) rfl) rfl
theorem q8 : (.initialized RX4 : Cond) ∈ TBG := tbt_1 (List.mem_of_getElem? (i := 8) rfl) rfl
theorem q9 : (.initialized "java/lang/Throwable" : Cond) ∈ TBG := tbt_1 (List.mem_of_getElem? (i := 9) rfl) rfl
theorem q10 : (.initialized "java/lang/Exception" : Cond) ∈ TBG := tbt_1 (List.mem_of_getElem? (i := 10) rfl) rfl
theorem q11 : (.initialized "java/lang/RuntimeException" : Cond) ∈ TBG := tbt_1 (List.mem_of_getElem? (i := 11) rfl) rfl
theorem q12 : (.initialized "java/lang/IllegalArgumentException" : Cond) ∈ TBG := tbt_1 (List.mem_of_getElem? (i := 12) rfl) rfl
theorem q13 : (.initialized "java/lang/IndexOutOfBoundsException" : Cond) ∈ TBG := tbt_1 (List.mem_of_getElem? (i := 13) rfl) rfl
theorem q14 : (.initialized RJ9 : Cond) ∈ TBG := tbt_1 (List.mem_of_getElem? (i := 14) rfl) rfl
theorem q15 : (.initialized "java/lang/IllegalStateException" : Cond) ∈ TBG := tbt_1 (List.mem_of_getElem? (i := 15) rfl) rfl
theorem q16 : (.classLink RL 10 RX7 : Cond) ∈ TBG := tbt_1 (List.mem_of_getElem? (i := 16) rfl) rfl
theorem q17 : (.instantiable RX7 8 : Cond) ∈ TBG := tbt_1 (List.mem_of_getElem? (i := 17) rfl) rfl
theorem q18 : (.methodLink RL 110 yX7_init : Cond) ∈ TBG := tbt_1 (List.mem_of_getElem? (i := 18) rfl) rfl
theorem q19 : (.instanceMethod yX7_init : Cond) ∈ TBG := tbt_1 (List.mem_of_getElem? (i := 19) rfl) rfl
theorem q20 : (.code yX7_init cX7_init 1 none : Cond) ∈ TBG := tbt_1 (List.mem_of_getElem? (i := 20) rfl) rfl
theorem q21 : (.methodLink RX7 1 objectInit : Cond) ∈ TBG := tbt_1 (List.mem_of_getElem? (i := 21) rfl) rfl
theorem q22 : (.instanceMethod objectInit : Cond) ∈ TBG := tbt_1 (List.mem_of_getElem? (i := 22) rfl) rfl
theorem q23 : (.code objectInit object_method_1_code 1 none : Cond) ∈ TBG := tbt_1 (List.mem_of_getElem? (i := 23) rfl) rfl
theorem q24 : (.classLink RX7 7 RX5 : Cond) ∈ TBG := tbt_1 (List.mem_of_getElem? (i := 24) rfl) rfl
theorem q25 : (.instantiable RX5 8 : Cond) ∈ TBG := tbt_1 (List.mem_of_getElem? (i := 25) rfl) rfl
theorem q26 : (.methodLink RX7 9 yX5_init : Cond) ∈ TBG := tbt_1 (List.mem_of_getElem? (i := 26) rfl) rfl
theorem q27 : (.instanceMethod yX5_init : Cond) ∈ TBG := tbt_1 (List.mem_of_getElem? (i := 27) rfl) rfl
theorem q28 : (.code yX5_init cX5_init 1 none : Cond) ∈ TBG := tbt_1 (List.mem_of_getElem? (i := 28) rfl) rfl
theorem q29 : (.methodLink RX5 3 objectInit : Cond) ∈ TBG := tbt_1 (List.mem_of_getElem? (i := 29) rfl) rfl
theorem q30 : (.methodLinkNest RX5 37 yX7_setIn RX7 : Cond) ∈ lw_tbl := tbl_1 (List.mem_of_getElem? (i := 30) rfl)
theorem q31 : (.static yX7_setIn : Cond) ∈ TBG := tbt_1 (List.mem_of_getElem? (i := 31) rfl) rfl
theorem q32 : (.code yX7_setIn cX7_setIn 3 none : Cond) ∈ TBG := tbt_1 (List.mem_of_getElem? (i := 32) rfl) rfl
theorem q33 : (.fieldLink RX5 9 "LeastRows$State" "rows" "I" : Cond) ∈ TBG := tbt_1 (List.mem_of_getElem? (i := 33) rfl) rfl
theorem q34 : (.fieldLink RX1 38 "LeastRows$State" "rows" "I" : Cond) ∈ TBG := tbt_1 (List.mem_of_getElem? (i := 34) rfl) rfl
theorem q35 : (.fieldLink RX7 81 "LeastRows$State" "rows" "I" : Cond) ∈ TBG := tbt_1 (List.mem_of_getElem? (i := 35) rfl) rfl
theorem q36 : (.fieldLink RX3 31 "LeastRows$State" "rows" "I" : Cond) ∈ TBG := tbt_1 (List.mem_of_getElem? (i := 36) rfl) rfl
theorem q37 : (.fieldLink RX5 15 "LeastRows$State" "columns" "I" : Cond) ∈ TBG := tbt_1 (List.mem_of_getElem? (i := 37) rfl) rfl
theorem q38 : (.fieldLink RX1 43 "LeastRows$State" "columns" "I" : Cond) ∈ TBG := tbt_1 (List.mem_of_getElem? (i := 38) rfl) rfl
theorem q39 : (.fieldLink RX7 85 "LeastRows$State" "columns" "I" : Cond) ∈ TBG := tbt_1 (List.mem_of_getElem? (i := 39) rfl) rfl
theorem q40 : (.fieldLink RX3 36 "LeastRows$State" "columns" "I" : Cond) ∈ TBG := tbt_1 (List.mem_of_getElem? (i := 40) rfl) rfl
theorem q41 : (.fieldLink RX5 18 "LeastRows$State" "weightCount" "I" : Cond) ∈ TBG := tbt_1 (List.mem_of_getElem? (i := 41) rfl) rfl
theorem q42 : (.fieldLink RX0 28 "LeastRows$State" "weightCount" "I" : Cond) ∈ TBG := tbt_1 (List.mem_of_getElem? (i := 42) rfl) rfl
theorem q43 : (.fieldLink RX7 166 "LeastRows$State" "weightCount" "I" : Cond) ∈ TBG := tbt_1 (List.mem_of_getElem? (i := 43) rfl) rfl
theorem q44 : (.fieldLink RX5 21 "LeastRows$State" "looksCounted" "I" : Cond) ∈ TBG := tbt_1 (List.mem_of_getElem? (i := 44) rfl) rfl
theorem q45 : (.fieldLink RX7 158 "LeastRows$State" "looksCounted" "I" : Cond) ∈ TBG := tbt_1 (List.mem_of_getElem? (i := 45) rfl) rfl
theorem q46 : (.fieldLink RX5 24 "LeastRows$State" "timesFound" "I" : Cond) ∈ TBG := tbt_1 (List.mem_of_getElem? (i := 46) rfl) rfl
theorem q47 : (.fieldLink RX7 161 "LeastRows$State" "timesFound" "I" : Cond) ∈ TBG := tbt_1 (List.mem_of_getElem? (i := 47) rfl) rfl
theorem q48 : (.fieldLink RX5 27 "LeastRows$State" "timesMended" "I" : Cond) ∈ TBG := tbt_1 (List.mem_of_getElem? (i := 48) rfl) rfl
theorem q49 : (.fieldLink RX7 133 "LeastRows$State" "timesMended" "I" : Cond) ∈ TBG := tbt_1 (List.mem_of_getElem? (i := 49) rfl) rfl
theorem q50 : (.fieldLink RX5 30 "LeastRows$State" "cells" "[I" : Cond) ∈ TBG := tbt_1 (List.mem_of_getElem? (i := 50) rfl) rfl
theorem q51 : (.fieldLink RX5 34 "LeastRows$State" "weights" "[I" : Cond) ∈ TBG := tbt_1 (List.mem_of_getElem? (i := 51) rfl) rfl
theorem q52 : (.arrayClass .int : Cond) ∈ TBG := tbt_1 (List.mem_of_getElem? (i := 69) rfl) rfl
theorem q53 : (.classLink RX7 16 RX3 : Cond) ∈ TBG := tbt_1 (List.mem_of_getElem? (i := 70) rfl) rfl
theorem q54 : (.instantiable RX3 5 : Cond) ∈ TBG := tbt_1 (List.mem_of_getElem? (i := 71) rfl) rfl
theorem q55 : (.methodLink RX7 18 yX3_init : Cond) ∈ TBG := tbt_1 (List.mem_of_getElem? (i := 72) rfl) rfl
theorem q56 : (.instanceMethod yX3_init : Cond) ∈ TBG := tbt_1 (List.mem_of_getElem? (i := 73) rfl) rfl
theorem q57 : (.code yX3_init cX3_init 2 none : Cond) ∈ TBG := tbt_1 (List.mem_of_getElem? (i := 74) rfl) rfl
theorem q58 : (.methodLink RX3 3 objectInit : Cond) ∈ TBG := tbt_1 (List.mem_of_getElem? (i := 75) rfl) rfl
theorem q59 : (.fieldLink RX3 9 "LeastRows$Rule" "row" "I" : Cond) ∈ TBG := tbt_1 (List.mem_of_getElem? (i := 76) rfl) rfl
theorem q60 : (.fieldLink RX7 124 "LeastRows$Rule" "row" "I" : Cond) ∈ TBG := tbt_1 (List.mem_of_getElem? (i := 77) rfl) rfl
theorem q61 : (.fieldLink RX3 15 "LeastRows$Rule" "left" "I" : Cond) ∈ TBG := tbt_1 (List.mem_of_getElem? (i := 78) rfl) rfl
theorem q62 : (.fieldLink RX7 130 "LeastRows$Rule" "left" "I" : Cond) ∈ TBG := tbt_1 (List.mem_of_getElem? (i := 79) rfl) rfl
theorem q63 : (.fieldLink RX3 18 "LeastRows$Rule" "right" "I" : Cond) ∈ TBG := tbt_1 (List.mem_of_getElem? (i := 80) rfl) rfl
theorem q64 : (.fieldLink RX7 127 "LeastRows$Rule" "right" "I" : Cond) ∈ TBG := tbt_1 (List.mem_of_getElem? (i := 81) rfl) rfl
theorem q65 : (.fieldLink RX3 21 "LeastRows$Rule" "witnesses" "I" : Cond) ∈ TBG := tbt_1 (List.mem_of_getElem? (i := 82) rfl) rfl
theorem q66 : (.fieldLink RX7 121 "LeastRows$Rule" "witnesses" "I" : Cond) ∈ TBG := tbt_1 (List.mem_of_getElem? (i := 83) rfl) rfl
theorem q67 : (.fieldLink RX3 24 "LeastRows$Rule" "table" "LLeastRows$State;" : Cond) ∈ TBG := tbt_1 (List.mem_of_getElem? (i := 84) rfl) rfl
theorem q68 : (.classLink RX7 25 RX1 : Cond) ∈ TBG := tbt_1 (List.mem_of_getElem? (i := 96) rfl) rfl
theorem q69 : (.instantiable RX1 7 : Cond) ∈ TBG := tbt_1 (List.mem_of_getElem? (i := 97) rfl) rfl
theorem q70 : (.methodLink RX7 27 yX1_init : Cond) ∈ TBG := tbt_1 (List.mem_of_getElem? (i := 98) rfl) rfl
theorem q71 : (.instanceMethod yX1_init : Cond) ∈ TBG := tbt_1 (List.mem_of_getElem? (i := 99) rfl) rfl
theorem q72 : (.code yX1_init cX1_init 2 none : Cond) ∈ TBG := tbt_1 (List.mem_of_getElem? (i := 100) rfl) rfl
theorem q73 : (.methodLink RX1 3 objectInit : Cond) ∈ TBG := tbt_1 (List.mem_of_getElem? (i := 101) rfl) rfl
theorem q74 : (.fieldLink RX1 31 "LeastRows$Finder" "table" "LLeastRows$State;" : Cond) ∈ TBG := tbt_1 (List.mem_of_getElem? (i := 102) rfl) rfl
theorem q75 : (.fieldLink RX1 9 "LeastRows$Finder" "places" "[I" : Cond) ∈ TBG := tbt_1 (List.mem_of_getElem? (i := 103) rfl) rfl
theorem q76 : (.fieldLink RX1 15 "LeastRows$Finder" "looksMade" "[I" : Cond) ∈ TBG := tbt_1 (List.mem_of_getElem? (i := 104) rfl) rfl
theorem q77 : (.fieldLink RX1 18 "LeastRows$Finder" "left" "[I" : Cond) ∈ TBG := tbt_1 (List.mem_of_getElem? (i := 105) rfl) rfl
theorem q78 : (.fieldLink RX1 21 "LeastRows$Finder" "leftCount" "[I" : Cond) ∈ TBG := tbt_1 (List.mem_of_getElem? (i := 106) rfl) rfl
theorem q79 : (.fieldLink RX1 24 "LeastRows$Finder" "way" "I" : Cond) ∈ TBG := tbt_1 (List.mem_of_getElem? (i := 107) rfl) rfl
theorem q80 : (.fieldLink RX1 28 "LeastRows$Finder" "looksNow" "I" : Cond) ∈ TBG := tbt_1 (List.mem_of_getElem? (i := 108) rfl) rfl
theorem q81 : (.classLink RX7 32 RX0 : Cond) ∈ TBG := tbt_1 (List.mem_of_getElem? (i := 124) rfl) rfl
theorem q82 : (.instantiable RX0 5 : Cond) ∈ TBG := tbt_1 (List.mem_of_getElem? (i := 125) rfl) rfl
theorem q83 : (.methodLink RX7 34 yX0_init : Cond) ∈ TBG := tbt_1 (List.mem_of_getElem? (i := 126) rfl) rfl
theorem q84 : (.instanceMethod yX0_init : Cond) ∈ TBG := tbt_1 (List.mem_of_getElem? (i := 127) rfl) rfl
theorem q85 : (.code yX0_init cX0_init 2 none : Cond) ∈ TBG := tbt_1 (List.mem_of_getElem? (i := 128) rfl) rfl
theorem q86 : (.methodLink RX0 3 objectInit : Cond) ∈ TBG := tbt_1 (List.mem_of_getElem? (i := 129) rfl) rfl
theorem q87 : (.fieldLink RX0 24 "LeastRows$Cutter" "state" "LLeastRows$State;" : Cond) ∈ TBG := tbt_1 (List.mem_of_getElem? (i := 130) rfl) rfl
theorem q88 : (.fieldLink RX0 11 "LeastRows$Cutter" "least" "[I" : Cond) ∈ TBG := tbt_1 (List.mem_of_getElem? (i := 131) rfl) rfl
theorem q89 : (.fieldLink RX0 15 "LeastRows$Cutter" "lastCut" "[I" : Cond) ∈ TBG := tbt_1 (List.mem_of_getElem? (i := 132) rfl) rfl
theorem q90 : (.fieldLink RX0 18 "LeastRows$Cutter" "firstTogether" "[I" : Cond) ∈ TBG := tbt_1 (List.mem_of_getElem? (i := 133) rfl) rfl
theorem q91 : (.fieldLink RX0 21 "LeastRows$Cutter" "tried" "[I" : Cond) ∈ TBG := tbt_1 (List.mem_of_getElem? (i := 134) rfl) rfl
theorem q92 : (.classLink RX7 39 RX6 : Cond) ∈ TBG := tbt_1 (List.mem_of_getElem? (i := 146) rfl) rfl
theorem q93 : (.instantiable RX6 8 : Cond) ∈ TBG := tbt_1 (List.mem_of_getElem? (i := 147) rfl) rfl
theorem q94 : (.methodLinkNest RX7 41 yX6_init RX7 : Cond) ∈ lw_tbl := tbl_1 (List.mem_of_getElem? (i := 148) rfl)
theorem q95 : (.instanceMethod yX6_init : Cond) ∈ TBG := tbt_1 (List.mem_of_getElem? (i := 149) rfl) rfl
theorem q96 : (.code yX6_init cX6_init 1 none : Cond) ∈ TBG := tbt_1 (List.mem_of_getElem? (i := 150) rfl) rfl
theorem q97 : (.methodLink RX6 3 objectInit : Cond) ∈ TBG := tbt_1 (List.mem_of_getElem? (i := 151) rfl) rfl
theorem q98 : (.fieldLink RX6 9 "LeastRows$Text" "length" "I" : Cond) ∈ TBG := tbt_1 (List.mem_of_getElem? (i := 152) rfl) rfl
theorem q99 : (.fieldLink RX7 181 "LeastRows$Text" "length" "I" : Cond) ∈ TBG := tbt_1 (List.mem_of_getElem? (i := 153) rfl) rfl
theorem q100 : (.fieldLink RX6 15 "LeastRows$Text" "codes" "[I" : Cond) ∈ TBG := tbt_1 (List.mem_of_getElem? (i := 154) rfl) rfl
theorem q101 : (.fieldLink RX6 19 "LeastRows$Text" "numbers" "[I" : Cond) ∈ TBG := tbt_1 (List.mem_of_getElem? (i := 155) rfl) rfl
theorem q102 : (.fieldLink RX6 22 "LeastRows$Text" "row" "I" : Cond) ∈ TBG := tbt_1 (List.mem_of_getElem? (i := 156) rfl) rfl
theorem q103 : (.fieldLink RX6 25 "LeastRows$Text" "column" "I" : Cond) ∈ TBG := tbt_1 (List.mem_of_getElem? (i := 157) rfl) rfl
theorem q104 : (.fieldLink RX6 28 "LeastRows$Text" "columnsOfFirst" "I" : Cond) ∈ TBG := tbt_1 (List.mem_of_getElem? (i := 158) rfl) rfl
theorem q105 : (.fieldLink RX6 31 "LeastRows$Text" "digits" "I" : Cond) ∈ TBG := tbt_1 (List.mem_of_getElem? (i := 159) rfl) rfl
theorem q106 : (.fieldLink RX6 34 "LeastRows$Text" "number" "I" : Cond) ∈ TBG := tbt_1 (List.mem_of_getElem? (i := 160) rfl) rfl
theorem q107 : (.classLink RX7 46 RX2 : Cond) ∈ TBG := tbt_1 (List.mem_of_getElem? (i := 178) rfl) rfl
theorem q108 : (.instantiable RX2 3 : Cond) ∈ TBG := tbt_1 (List.mem_of_getElem? (i := 179) rfl) rfl
theorem q109 : (.methodLink RX7 48 yX2_init : Cond) ∈ TBG := tbt_1 (List.mem_of_getElem? (i := 180) rfl) rfl
theorem q110 : (.instanceMethod yX2_init : Cond) ∈ TBG := tbt_1 (List.mem_of_getElem? (i := 181) rfl) rfl
theorem q111 : (.code yX2_init cX2_init 2 none : Cond) ∈ TBG := tbt_1 (List.mem_of_getElem? (i := 182) rfl) rfl
theorem q112 : (.methodLink RX2 3 objectInit : Cond) ∈ TBG := tbt_1 (List.mem_of_getElem? (i := 183) rfl) rfl
theorem q113 : (.classLink RX2 18 RX5 : Cond) ∈ TBG := tbt_1 (List.mem_of_getElem? (i := 184) rfl) rfl
theorem q114 : (.methodLink RX2 24 yX5_init : Cond) ∈ TBG := tbt_1 (List.mem_of_getElem? (i := 186) rfl) rfl
theorem q115 : (.fieldLink RX2 9 "LeastRows$History" "count" "I" : Cond) ∈ TBG := tbt_1 (List.mem_of_getElem? (i := 187) rfl) rfl
theorem q116 : (.fieldLink RX7 230 "LeastRows$History" "count" "I" : Cond) ∈ TBG := tbt_1 (List.mem_of_getElem? (i := 188) rfl) rfl
theorem q117 : (.fieldLink RX2 15 "LeastRows$History" "oldest" "I" : Cond) ∈ TBG := tbt_1 (List.mem_of_getElem? (i := 189) rfl) rfl
theorem q118 : (.fieldLink RX2 20 "LeastRows$History" "saved" "[LLeastRows$State;" : Cond) ∈ TBG := tbt_1 (List.mem_of_getElem? (i := 190) rfl) rfl
theorem q119 : (.classLink RX7 53 RX4 : Cond) ∈ TBG := tbt_1 (List.mem_of_getElem? (i := 198) rfl) rfl
theorem q120 : (.instantiable RX4 2 : Cond) ∈ TBG := tbt_1 (List.mem_of_getElem? (i := 199) rfl) rfl
theorem q121 : (.methodLinkNest RX7 55 yX4_init RX7 : Cond) ∈ lw_tbl := tbl_1 (List.mem_of_getElem? (i := 200) rfl)
theorem q122 : (.instanceMethod yX4_init : Cond) ∈ TBG := tbt_1 (List.mem_of_getElem? (i := 201) rfl) rfl
theorem q123 : (.code yX4_init cX4_init 1 none : Cond) ∈ TBG := tbt_1 (List.mem_of_getElem? (i := 202) rfl) rfl
theorem q124 : (.methodLink RX4 1 objectInit : Cond) ∈ TBG := tbt_1 (List.mem_of_getElem? (i := 203) rfl) rfl
theorem q125 : (.classLink RX4 13 RX5 : Cond) ∈ TBG := tbt_1 (List.mem_of_getElem? (i := 204) rfl) rfl
theorem q126 : (.methodLink RX4 15 yX5_init : Cond) ∈ TBG := tbt_1 (List.mem_of_getElem? (i := 205) rfl) rfl
theorem q127 : (.fieldLink RX4 7 "LeastRows$Slot" "isFilled" "Z" : Cond) ∈ TBG := tbt_1 (List.mem_of_getElem? (i := 206) rfl) rfl
theorem q128 : (.fieldLink RX7 218 "LeastRows$Slot" "isFilled" "Z" : Cond) ∈ TBG := tbt_1 (List.mem_of_getElem? (i := 207) rfl) rfl
theorem q129 : (.fieldLink RX4 16 "LeastRows$Slot" "snapshot" "LLeastRows$State;" : Cond) ∈ TBG := tbt_1 (List.mem_of_getElem? (i := 208) rfl) rfl
theorem q130 : (.fieldLink RX7 224 "LeastRows$Slot" "snapshot" "LLeastRows$State;" : Cond) ∈ TBG := tbt_1 (List.mem_of_getElem? (i := 209) rfl) rfl
theorem q131 : (.fieldLink RX7 10 "LeastRows" "now" "LLeastRows$State;" : Cond) ∈ TBG := tbt_1 (List.mem_of_getElem? (i := 215) rfl) rfl
theorem q132 : (.fieldLink RX7 21 "LeastRows" "rule" "LLeastRows$Rule;" : Cond) ∈ TBG := tbt_1 (List.mem_of_getElem? (i := 216) rfl) rfl
theorem q133 : (.fieldLink RX7 28 "LeastRows" "finder" "LLeastRows$Finder;" : Cond) ∈ TBG := tbt_1 (List.mem_of_getElem? (i := 217) rfl) rfl
theorem q134 : (.fieldLink RX7 35 "LeastRows" "cutter" "LLeastRows$Cutter;" : Cond) ∈ TBG := tbt_1 (List.mem_of_getElem? (i := 218) rfl) rfl
theorem q135 : (.fieldLink RX7 42 "LeastRows" "text" "LLeastRows$Text;" : Cond) ∈ TBG := tbt_1 (List.mem_of_getElem? (i := 219) rfl) rfl
theorem q136 : (.fieldLink RX7 49 "LeastRows" "history" "LLeastRows$History;" : Cond) ∈ TBG := tbt_1 (List.mem_of_getElem? (i := 220) rfl) rfl
theorem q137 : (.fieldLink RX7 56 "LeastRows" "slotZero" "LLeastRows$Slot;" : Cond) ∈ TBG := tbt_1 (List.mem_of_getElem? (i := 221) rfl) rfl
theorem q138 : (.fieldLink RX7 60 "LeastRows" "slotOne" "LLeastRows$Slot;" : Cond) ∈ TBG := tbt_1 (List.mem_of_getElem? (i := 222) rfl) rfl
theorem q139 : (.methodLink RL 15 yX7_put : Cond) ∈ TBG := tbt_2 (List.mem_of_getElem? (i := 0) rfl) rfl
theorem q140 : (.instanceMethod yX7_put : Cond) ∈ TBG := tbt_2 (List.mem_of_getElem? (i := 1) rfl) rfl
theorem q141 : (.selects RX7 yX7_put yX7_put : Cond) ∈ TBG := tbt_2 (List.mem_of_getElem? (i := 2) rfl) rfl
theorem q142 : (.code yX7_put cX7_put 5 (some .int) : Cond) ∈ TBG := tbt_2 (List.mem_of_getElem? (i := 3) rfl) rfl
theorem q143 : (.methodLink RX7 88 yX5_hasCell : Cond) ∈ TBG := tbt_2 (List.mem_of_getElem? (i := 4) rfl) rfl
theorem q144 : (.instanceMethod yX5_hasCell : Cond) ∈ TBG := tbt_2 (List.mem_of_getElem? (i := 5) rfl) rfl
theorem q145 : (.selects RX5 yX5_hasCell yX5_hasCell : Cond) ∈ TBG := tbt_2 (List.mem_of_getElem? (i := 6) rfl) rfl
theorem q146 : (.code yX5_hasCell cX5_hasCell 3 (some .boolean) : Cond) ∈ TBG := tbt_2 (List.mem_of_getElem? (i := 7) rfl) rfl
theorem q147 : (.methodLinkNest RX5 41 yX7_isFromTo RX7 : Cond) ∈ lw_tbl := tbl_2 (List.mem_of_getElem? (i := 8) rfl)
theorem q148 : (.static yX7_isFromTo : Cond) ∈ TBG := tbt_2 (List.mem_of_getElem? (i := 9) rfl) rfl
theorem q149 : (.code yX7_isFromTo cX7_isFromTo 3 (some .boolean) : Cond) ∈ TBG := tbt_2 (List.mem_of_getElem? (i := 10) rfl) rfl
theorem q150 : (.classLink RX7 92 "java/lang/IndexOutOfBoundsException" : Cond) ∈ TBG := tbt_2 (List.mem_of_getElem? (i := 11) rfl) rfl
theorem q151 : (.instantiable "java/lang/IndexOutOfBoundsException" 6 : Cond) ∈ TBG := tbt_2 (List.mem_of_getElem? (i := 12) rfl) rfl
theorem q152 : (.castable "java/lang/IndexOutOfBoundsException" "java/lang/IndexOutOfBoundsException" : Cond) ∈ lw_tbl := tbl_2 (List.mem_of_getElem? (i := 13) rfl)
theorem q153 : (.selects "java/lang/IndexOutOfBoundsException" (⟨"java/lang/Throwable", "fillInStackTrace", "(I)Ljava/lang/Throwable;"⟩ : MethodName) (⟨"java/lang/Throwable", "fillInStackTrace", "(I)Ljava/lang/Throwable;"⟩ : MethodName) : Cond) ∈ TBG := tbt_2 (List.mem_of_getElem? (i := 20) rfl) rfl
theorem q154 : (.selects "java/lang/IndexOutOfBoundsException" (⟨"java/lang/Throwable", "fillInStackTrace", "()Ljava/lang/Throwable;"⟩ : MethodName) (⟨"java/lang/Throwable", "fillInStackTrace", "()Ljava/lang/Throwable;"⟩ : MethodName) : Cond) ∈ TBG := tbt_2 (List.mem_of_getElem? (i := 21) rfl) rfl
theorem q155 : (.fieldLink "java/lang/Throwable" 198 "java/lang/Throwable" "backtrace" "Ljava/lang/Object;" : Cond) ∈ TBG := tbt_2 (List.mem_of_getElem? (i := 32) rfl) rfl
theorem q156 : (.instanceMethod (⟨"java/lang/Throwable", "<init>", "()V"⟩ : MethodName) : Cond) ∈ TBG := tbt_2 (List.mem_of_getElem? (i := 34) rfl) rfl
theorem q157 : (.code (⟨"java/lang/Throwable", "<init>", "()V"⟩ : MethodName) prog_18_method_1_code 1 none : Cond) ∈ TBG := tbt_2 (List.mem_of_getElem? (i := 35) rfl) rfl
theorem q158 : (.methodLink "java/lang/Throwable" 1 objectInit : Cond) ∈ TBG := tbt_2 (List.mem_of_getElem? (i := 36) rfl) rfl
theorem q159 : (.fieldLink "java/lang/Throwable" 13 "java/lang/Throwable" "UNASSIGNED_STACK" "[Ljava/lang/StackTraceElement;" : Cond) ∈ TBG := tbt_2 (List.mem_of_getElem? (i := 37) rfl) rfl
theorem q160 : (.fieldLink "java/lang/Throwable" 20 "java/lang/Throwable" "SUPPRESSED_SENTINEL" "Ljava/util/List;" : Cond) ∈ TBG := tbt_2 (List.mem_of_getElem? (i := 39) rfl) rfl
theorem q161 : (.methodLink "java/lang/Throwable" 27 (⟨"java/lang/Throwable", "fillInStackTrace", "()Ljava/lang/Throwable;"⟩ : MethodName) : Cond) ∈ TBG := tbt_2 (List.mem_of_getElem? (i := 41) rfl) rfl
theorem q162 : (.instanceMethod (⟨"java/lang/Throwable", "fillInStackTrace", "()Ljava/lang/Throwable;"⟩ : MethodName) : Cond) ∈ TBG := tbt_2 (List.mem_of_getElem? (i := 42) rfl) rfl
theorem q163 : (.selects "java/lang/IllegalArgumentException" (⟨"java/lang/Throwable", "fillInStackTrace", "()Ljava/lang/Throwable;"⟩ : MethodName) (⟨"java/lang/Throwable", "fillInStackTrace", "()Ljava/lang/Throwable;"⟩ : MethodName) : Cond) ∈ TBG := tbt_2 (List.mem_of_getElem? (i := 44) rfl) rfl
theorem q164 : (.selects "java/lang/IllegalStateException" (⟨"java/lang/Throwable", "fillInStackTrace", "()Ljava/lang/Throwable;"⟩ : MethodName) (⟨"java/lang/Throwable", "fillInStackTrace", "()Ljava/lang/Throwable;"⟩ : MethodName) : Cond) ∈ TBG := tbt_2 (List.mem_of_getElem? (i := 45) rfl) rfl
theorem q165 : (.methodLink "java/lang/Throwable" 202 (⟨"java/lang/Throwable", "fillInStackTrace", "(I)Ljava/lang/Throwable;"⟩ : MethodName) : Cond) ∈ TBG := tbt_2 (List.mem_of_getElem? (i := 47) rfl) rfl
theorem q166 : (.instanceMethod (⟨"java/lang/Throwable", "fillInStackTrace", "(I)Ljava/lang/Throwable;"⟩ : MethodName) : Cond) ∈ TBG := tbt_2 (List.mem_of_getElem? (i := 49) rfl) rfl
theorem q167 : (.instantiable "java/lang/Throwable" 6 : Cond) ∈ TBG := tbt_2 (List.mem_of_getElem? (i := 50) rfl) rfl
theorem q168 : (.methodLink RX7 96 (⟨"java/lang/IndexOutOfBoundsException", "<init>", "(Ljava/lang/String;)V"⟩ : MethodName) : Cond) ∈ TBG := tbt_2 (List.mem_of_getElem? (i := 53) rfl) rfl
theorem q169 : (.instanceMethod (⟨"java/lang/IndexOutOfBoundsException", "<init>", "(Ljava/lang/String;)V"⟩ : MethodName) : Cond) ∈ TBG := tbt_2 (List.mem_of_getElem? (i := 54) rfl) rfl
theorem q170 : (.code (⟨"java/lang/IndexOutOfBoundsException", "<init>", "(Ljava/lang/String;)V"⟩ : MethodName) prog_14_method_2_code 2 none : Cond) ∈ TBG := tbt_2 (List.mem_of_getElem? (i := 55) rfl) rfl
theorem q171 : (.methodLink "java/lang/IndexOutOfBoundsException" 7 (⟨"java/lang/RuntimeException", "<init>", "(Ljava/lang/String;)V"⟩ : MethodName) : Cond) ∈ TBG := tbt_2 (List.mem_of_getElem? (i := 56) rfl) rfl
theorem q172 : (.instanceMethod (⟨"java/lang/RuntimeException", "<init>", "(Ljava/lang/String;)V"⟩ : MethodName) : Cond) ∈ TBG := tbt_2 (List.mem_of_getElem? (i := 57) rfl) rfl
theorem q173 : (.code (⟨"java/lang/RuntimeException", "<init>", "(Ljava/lang/String;)V"⟩ : MethodName) prog_16_method_2_code 2 none : Cond) ∈ TBG := tbt_2 (List.mem_of_getElem? (i := 58) rfl) rfl
theorem q174 : (.methodLink "java/lang/RuntimeException" 7 (⟨"java/lang/Exception", "<init>", "(Ljava/lang/String;)V"⟩ : MethodName) : Cond) ∈ TBG := tbt_2 (List.mem_of_getElem? (i := 59) rfl) rfl
theorem q175 : (.instanceMethod (⟨"java/lang/Exception", "<init>", "(Ljava/lang/String;)V"⟩ : MethodName) : Cond) ∈ TBG := tbt_2 (List.mem_of_getElem? (i := 60) rfl) rfl
theorem q176 : (.code (⟨"java/lang/Exception", "<init>", "(Ljava/lang/String;)V"⟩ : MethodName) prog_11_method_2_code 2 none : Cond) ∈ TBG := tbt_2 (List.mem_of_getElem? (i := 61) rfl) rfl
theorem q177 : (.methodLink "java/lang/Exception" 7 (⟨"java/lang/Throwable", "<init>", "(Ljava/lang/String;)V"⟩ : MethodName) : Cond) ∈ TBG := tbt_2 (List.mem_of_getElem? (i := 62) rfl) rfl
theorem q178 : (.instanceMethod (⟨"java/lang/Throwable", "<init>", "(Ljava/lang/String;)V"⟩ : MethodName) : Cond) ∈ TBG := tbt_2 (List.mem_of_getElem? (i := 63) rfl) rfl
theorem q179 : (.code (⟨"java/lang/Throwable", "<init>", "(Ljava/lang/String;)V"⟩ : MethodName) prog_18_method_2_code 2 none : Cond) ∈ TBG := tbt_2 (List.mem_of_getElem? (i := 64) rfl) rfl
theorem q180 : (.fieldLink "java/lang/Throwable" 198 "java/lang/Throwable" "backtrace" "Ljava/lang/Object;" : Cond) ∈ TBG := tbt_2 (List.mem_of_getElem? (i := 65) rfl) rfl
theorem q181 : (.fieldLink "java/lang/Throwable" 31 "java/lang/Throwable" "detailMessage" "Ljava/lang/String;" : Cond) ∈ TBG := tbt_2 (List.mem_of_getElem? (i := 66) rfl) rfl
theorem q182 : (.fieldLink "java/lang/Throwable" 7 "java/lang/Throwable" "cause" "Ljava/lang/Throwable;" : Cond) ∈ TBG := tbt_2 (List.mem_of_getElem? (i := 67) rfl) rfl
theorem q183 : (.fieldLink "java/lang/Throwable" 17 "java/lang/Throwable" "stackTrace" "[Ljava/lang/StackTraceElement;" : Cond) ∈ TBG := tbt_2 (List.mem_of_getElem? (i := 68) rfl) rfl
theorem q184 : (.fieldLink "java/lang/Throwable" 24 "java/lang/Throwable" "suppressedExceptions" "Ljava/util/List;" : Cond) ∈ TBG := tbt_2 (List.mem_of_getElem? (i := 69) rfl) rfl
theorem q185 : (.arrayClass .byte : Cond) ∈ TBG := tbt_2 (List.mem_of_getElem? (i := 78) rfl) rfl
theorem q186 : (.methodLink RX7 63 yX7_isFromTo : Cond) ∈ TBG := tbt_2 (List.mem_of_getElem? (i := 79) rfl) rfl
theorem q187 : (.classLink RX7 67 "java/lang/IllegalArgumentException" : Cond) ∈ TBG := tbt_2 (List.mem_of_getElem? (i := 80) rfl) rfl
theorem q188 : (.instantiable "java/lang/IllegalArgumentException" 6 : Cond) ∈ TBG := tbt_2 (List.mem_of_getElem? (i := 81) rfl) rfl
theorem q189 : (.castable "java/lang/IllegalArgumentException" "java/lang/IllegalArgumentException" : Cond) ∈ lw_tbl := tbl_2 (List.mem_of_getElem? (i := 82) rfl)
theorem q190 : (.selects "java/lang/IllegalArgumentException" (⟨"java/lang/Throwable", "fillInStackTrace", "(I)Ljava/lang/Throwable;"⟩ : MethodName) (⟨"java/lang/Throwable", "fillInStackTrace", "(I)Ljava/lang/Throwable;"⟩ : MethodName) : Cond) ∈ TBG := tbt_2 (List.mem_of_getElem? (i := 83) rfl) rfl
theorem q191 : (.methodLink RX7 71 (⟨"java/lang/IllegalArgumentException", "<init>", "(Ljava/lang/String;)V"⟩ : MethodName) : Cond) ∈ TBG := tbt_2 (List.mem_of_getElem? (i := 90) rfl) rfl
theorem q192 : (.instanceMethod (⟨"java/lang/IllegalArgumentException", "<init>", "(Ljava/lang/String;)V"⟩ : MethodName) : Cond) ∈ TBG := tbt_2 (List.mem_of_getElem? (i := 91) rfl) rfl
theorem q193 : (.code (⟨"java/lang/IllegalArgumentException", "<init>", "(Ljava/lang/String;)V"⟩ : MethodName) prog_12_method_2_code 2 none : Cond) ∈ TBG := tbt_2 (List.mem_of_getElem? (i := 92) rfl) rfl
theorem q194 : (.methodLink "java/lang/IllegalArgumentException" 7 (⟨"java/lang/RuntimeException", "<init>", "(Ljava/lang/String;)V"⟩ : MethodName) : Cond) ∈ TBG := tbt_2 (List.mem_of_getElem? (i := 93) rfl) rfl
theorem q195 : (.methodLink RX7 74 yX2_save : Cond) ∈ TBG := tbt_2 (List.mem_of_getElem? (i := 96) rfl) rfl
theorem q196 : (.instanceMethod yX2_save : Cond) ∈ TBG := tbt_2 (List.mem_of_getElem? (i := 97) rfl) rfl
theorem q197 : (.selects RX2 yX2_save yX2_save : Cond) ∈ TBG := tbt_2 (List.mem_of_getElem? (i := 98) rfl) rfl
theorem q198 : (.code yX2_save cX2_save 3 none : Cond) ∈ TBG := tbt_2 (List.mem_of_getElem? (i := 99) rfl) rfl
theorem q199 : (.methodLink RX2 25 yX2_stateAt : Cond) ∈ TBG := tbt_2 (List.mem_of_getElem? (i := 100) rfl) rfl
theorem q200 : (.instanceMethod yX2_stateAt : Cond) ∈ TBG := tbt_2 (List.mem_of_getElem? (i := 102) rfl) rfl
theorem q201 : (.code yX2_stateAt cX2_stateAt 3 (some (.object "LeastRows$State")) : Cond) ∈ TBG := tbt_2 (List.mem_of_getElem? (i := 103) rfl) rfl
theorem q202 : (.methodLink RX2 29 yX5_copyFrom : Cond) ∈ TBG := tbt_2 (List.mem_of_getElem? (i := 104) rfl) rfl
theorem q203 : (.instanceMethod yX5_copyFrom : Cond) ∈ TBG := tbt_2 (List.mem_of_getElem? (i := 105) rfl) rfl
theorem q204 : (.selects RX5 yX5_copyFrom yX5_copyFrom : Cond) ∈ TBG := tbt_2 (List.mem_of_getElem? (i := 106) rfl) rfl
theorem q205 : (.code yX5_copyFrom cX5_copyFrom 2 none : Cond) ∈ TBG := tbt_2 (List.mem_of_getElem? (i := 107) rfl) rfl
theorem q206 : (.methodLinkNest RX5 53 yX7_copyAll RX7 : Cond) ∈ lw_tbl := tbl_2 (List.mem_of_getElem? (i := 108) rfl)
theorem q207 : (.static yX7_copyAll : Cond) ∈ TBG := tbt_2 (List.mem_of_getElem? (i := 109) rfl) rfl
theorem q208 : (.code yX7_copyAll cX7_copyAll 3 none : Cond) ∈ TBG := tbt_2 (List.mem_of_getElem? (i := 110) rfl) rfl
theorem q209 : (.methodLink RX7 99 yX5_numberAt : Cond) ∈ TBG := tbt_2 (List.mem_of_getElem? (i := 111) rfl) rfl
theorem q210 : (.instanceMethod yX5_numberAt : Cond) ∈ TBG := tbt_2 (List.mem_of_getElem? (i := 112) rfl) rfl
theorem q211 : (.selects RX5 yX5_numberAt yX5_numberAt : Cond) ∈ TBG := tbt_2 (List.mem_of_getElem? (i := 113) rfl) rfl
theorem q212 : (.code yX5_numberAt cX5_numberAt 4 (some .int) : Cond) ∈ TBG := tbt_2 (List.mem_of_getElem? (i := 114) rfl) rfl
theorem q213 : (.methodLink RX7 103 yX5_setNumber : Cond) ∈ TBG := tbt_2 (List.mem_of_getElem? (i := 115) rfl) rfl
theorem q214 : (.instanceMethod yX5_setNumber : Cond) ∈ TBG := tbt_2 (List.mem_of_getElem? (i := 116) rfl) rfl
theorem q215 : (.selects RX5 yX5_setNumber yX5_setNumber : Cond) ∈ TBG := tbt_2 (List.mem_of_getElem? (i := 117) rfl) rfl
theorem q216 : (.code yX5_setNumber cX5_setNumber 4 none : Cond) ∈ TBG := tbt_2 (List.mem_of_getElem? (i := 118) rfl) rfl
theorem q217 : (.methodLink RL 19 yX7_points : Cond) ∈ TBG := tbt_2 (List.mem_of_getElem? (i := 119) rfl) rfl
theorem q218 : (.instanceMethod yX7_points : Cond) ∈ TBG := tbt_2 (List.mem_of_getElem? (i := 120) rfl) rfl
theorem q219 : (.selects RX7 yX7_points yX7_points : Cond) ∈ TBG := tbt_2 (List.mem_of_getElem? (i := 121) rfl) rfl
theorem q220 : (.code yX7_points cX7_points 8 (some .int) : Cond) ∈ TBG := tbt_2 (List.mem_of_getElem? (i := 122) rfl) rfl
theorem q221 : (.methodLink RX7 109 yJ9_min_7cf53 : Cond) ∈ TBG := tbt_2 (List.mem_of_getElem? (i := 124) rfl) rfl
theorem q222 : (.static yJ9_min_7cf53 : Cond) ∈ TBG := tbt_2 (List.mem_of_getElem? (i := 125) rfl) rfl
theorem q223 : (.code yJ9_min_7cf53 cJ9_min_7cf53 2 (some .int) : Cond) ∈ TBG := tbt_2 (List.mem_of_getElem? (i := 126) rfl) rfl
theorem q224 : (.methodLink RX7 114 yX3_isKept : Cond) ∈ TBG := tbt_2 (List.mem_of_getElem? (i := 127) rfl) rfl
theorem q225 : (.instanceMethod yX3_isKept : Cond) ∈ TBG := tbt_2 (List.mem_of_getElem? (i := 128) rfl) rfl
theorem q226 : (.selects RX3 yX3_isKept yX3_isKept : Cond) ∈ TBG := tbt_2 (List.mem_of_getElem? (i := 129) rfl) rfl
theorem q227 : (.code yX3_isKept cX3_isKept 1 (some .boolean) : Cond) ∈ TBG := tbt_2 (List.mem_of_getElem? (i := 130) rfl) rfl
theorem q228 : (.methodLink RX3 28 yX3_examine : Cond) ∈ TBG := tbt_2 (List.mem_of_getElem? (i := 131) rfl) rfl
theorem q229 : (.instanceMethod yX3_examine : Cond) ∈ TBG := tbt_2 (List.mem_of_getElem? (i := 132) rfl) rfl
theorem q230 : (.selects RX3 yX3_examine yX3_examine : Cond) ∈ TBG := tbt_2 (List.mem_of_getElem? (i := 133) rfl) rfl
theorem q231 : (.code yX3_examine cX3_examine 4 none : Cond) ∈ TBG := tbt_2 (List.mem_of_getElem? (i := 134) rfl) rfl
theorem q232 : (.methodLink RX3 39 yX3_isGreater : Cond) ∈ TBG := tbt_2 (List.mem_of_getElem? (i := 135) rfl) rfl
theorem q233 : (.instanceMethod yX3_isGreater : Cond) ∈ TBG := tbt_2 (List.mem_of_getElem? (i := 137) rfl) rfl
theorem q234 : (.code yX3_isGreater cX3_isGreater 4 (some .boolean) : Cond) ∈ TBG := tbt_2 (List.mem_of_getElem? (i := 138) rfl) rfl
theorem q235 : (.methodLink RX3 47 yX5_numberAt : Cond) ∈ TBG := tbt_2 (List.mem_of_getElem? (i := 139) rfl) rfl
theorem q236 : (.methodLink RX3 43 yX3_note : Cond) ∈ TBG := tbt_2 (List.mem_of_getElem? (i := 140) rfl) rfl
theorem q237 : (.instanceMethod yX3_note : Cond) ∈ TBG := tbt_2 (List.mem_of_getElem? (i := 142) rfl) rfl
theorem q238 : (.code yX3_note cX3_note 4 none : Cond) ∈ TBG := tbt_2 (List.mem_of_getElem? (i := 143) rfl) rfl
theorem q239 : (.methodLink RL 121 yX7_mend : Cond) ∈ TBG := tbt_2 (List.mem_of_getElem? (i := 144) rfl) rfl
theorem q240 : (.instanceMethod yX7_mend : Cond) ∈ TBG := tbt_2 (List.mem_of_getElem? (i := 145) rfl) rfl
theorem q241 : (.selects RX7 yX7_mend yX7_mend : Cond) ∈ TBG := tbt_2 (List.mem_of_getElem? (i := 146) rfl) rfl
theorem q242 : (.code yX7_mend cX7_mend 2 (some .int) : Cond) ∈ TBG := tbt_2 (List.mem_of_getElem? (i := 147) rfl) rfl
theorem q243 : (.methodLink RX7 118 yX3_examine : Cond) ∈ TBG := tbt_2 (List.mem_of_getElem? (i := 148) rfl) rfl
theorem q244 : (.methodLink RL 23 yX7_find : Cond) ∈ TBG := tbt_2 (List.mem_of_getElem? (i := 149) rfl) rfl
theorem q245 : (.instanceMethod yX7_find : Cond) ∈ TBG := tbt_2 (List.mem_of_getElem? (i := 150) rfl) rfl
theorem q246 : (.selects RX7 yX7_find yX7_find : Cond) ∈ TBG := tbt_2 (List.mem_of_getElem? (i := 151) rfl) rfl
theorem q247 : (.code yX7_find cX7_find 3 (some .int) : Cond) ∈ TBG := tbt_2 (List.mem_of_getElem? (i := 152) rfl) rfl
theorem q248 : (.methodLink RX7 136 yX7_isWay : Cond) ∈ TBG := tbt_2 (List.mem_of_getElem? (i := 153) rfl) rfl
theorem q249 : (.static yX7_isWay : Cond) ∈ TBG := tbt_2 (List.mem_of_getElem? (i := 154) rfl) rfl
theorem q250 : (.code yX7_isWay cX7_isWay 1 (some .boolean) : Cond) ∈ TBG := tbt_2 (List.mem_of_getElem? (i := 155) rfl) rfl
theorem q251 : (.methodLink RX7 142 yX7_isOpen : Cond) ∈ TBG := tbt_2 (List.mem_of_getElem? (i := 157) rfl) rfl
theorem q252 : (.instanceMethod yX7_isOpen : Cond) ∈ TBG := tbt_2 (List.mem_of_getElem? (i := 159) rfl) rfl
theorem q253 : (.code yX7_isOpen cX7_isOpen 2 (some .boolean) : Cond) ∈ TBG := tbt_2 (List.mem_of_getElem? (i := 160) rfl) rfl
theorem q254 : (.classLink RX7 145 "java/lang/IllegalStateException" : Cond) ∈ TBG := tbt_2 (List.mem_of_getElem? (i := 161) rfl) rfl
theorem q255 : (.instantiable "java/lang/IllegalStateException" 6 : Cond) ∈ TBG := tbt_2 (List.mem_of_getElem? (i := 162) rfl) rfl
theorem q256 : (.castable "java/lang/IllegalStateException" "java/lang/IllegalStateException" : Cond) ∈ lw_tbl := tbl_2 (List.mem_of_getElem? (i := 163) rfl)
theorem q257 : (.selects "java/lang/IllegalStateException" (⟨"java/lang/Throwable", "fillInStackTrace", "(I)Ljava/lang/Throwable;"⟩ : MethodName) (⟨"java/lang/Throwable", "fillInStackTrace", "(I)Ljava/lang/Throwable;"⟩ : MethodName) : Cond) ∈ TBG := tbt_2 (List.mem_of_getElem? (i := 164) rfl) rfl
theorem q258 : (.methodLink RX7 149 (⟨"java/lang/IllegalStateException", "<init>", "(Ljava/lang/String;)V"⟩ : MethodName) : Cond) ∈ TBG := tbt_2 (List.mem_of_getElem? (i := 171) rfl) rfl
theorem q259 : (.instanceMethod (⟨"java/lang/IllegalStateException", "<init>", "(Ljava/lang/String;)V"⟩ : MethodName) : Cond) ∈ TBG := tbt_2 (List.mem_of_getElem? (i := 172) rfl) rfl
theorem q260 : (.code (⟨"java/lang/IllegalStateException", "<init>", "(Ljava/lang/String;)V"⟩ : MethodName) prog_13_method_2_code 2 none : Cond) ∈ TBG := tbt_2 (List.mem_of_getElem? (i := 173) rfl) rfl
theorem q261 : (.methodLink "java/lang/IllegalStateException" 7 (⟨"java/lang/RuntimeException", "<init>", "(Ljava/lang/String;)V"⟩ : MethodName) : Cond) ∈ TBG := tbt_2 (List.mem_of_getElem? (i := 174) rfl) rfl
theorem q262 : (.methodLink RX7 150 yX1_seek : Cond) ∈ TBG := tbt_2 (List.mem_of_getElem? (i := 177) rfl) rfl
theorem q263 : (.instanceMethod yX1_seek : Cond) ∈ TBG := tbt_2 (List.mem_of_getElem? (i := 178) rfl) rfl
theorem q264 : (.selects RX1 yX1_seek yX1_seek : Cond) ∈ TBG := tbt_2 (List.mem_of_getElem? (i := 179) rfl) rfl
theorem q265 : (.code yX1_seek cX1_seek 3 none : Cond) ∈ TBG := tbt_2 (List.mem_of_getElem? (i := 180) rfl) rfl
theorem q266 : (.methodLink RX1 35 yX1_leaveAllColumns : Cond) ∈ TBG := tbt_2 (List.mem_of_getElem? (i := 181) rfl) rfl
theorem q267 : (.instanceMethod yX1_leaveAllColumns : Cond) ∈ TBG := tbt_2 (List.mem_of_getElem? (i := 183) rfl) rfl
theorem q268 : (.code yX1_leaveAllColumns cX1_leaveAllColumns 2 none : Cond) ∈ TBG := tbt_2 (List.mem_of_getElem? (i := 184) rfl) rfl
theorem q269 : (.methodLinkNest RX1 60 yX7_setIn RX7 : Cond) ∈ lw_tbl := tbl_2 (List.mem_of_getElem? (i := 185) rfl)
theorem q270 : (.methodLink RX1 46 yX1_halve : Cond) ∈ TBG := tbt_2 (List.mem_of_getElem? (i := 186) rfl) rfl
theorem q271 : (.static yX1_halve : Cond) ∈ TBG := tbt_2 (List.mem_of_getElem? (i := 187) rfl) rfl
theorem q272 : (.code yX1_halve cX1_halve 8 none : Cond) ∈ TBG := tbt_2 (List.mem_of_getElem? (i := 188) rfl) rfl
theorem q273 : (.methodLink RX1 76 yX1_leftmostLeast : Cond) ∈ TBG := tbt_2 (List.mem_of_getElem? (i := 189) rfl) rfl
theorem q274 : (.instanceMethod yX1_leftmostLeast : Cond) ∈ TBG := tbt_2 (List.mem_of_getElem? (i := 191) rfl) rfl
theorem q275 : (.code yX1_leftmostLeast cX1_leftmostLeast 11 (some .int) : Cond) ∈ TBG := tbt_2 (List.mem_of_getElem? (i := 192) rfl) rfl
theorem q276 : (.methodLinkNest RX1 64 yX7_numberIn RX7 : Cond) ∈ lw_tbl := tbl_2 (List.mem_of_getElem? (i := 193) rfl)
theorem q277 : (.static yX7_numberIn : Cond) ∈ TBG := tbt_2 (List.mem_of_getElem? (i := 194) rfl) rfl
theorem q278 : (.code yX7_numberIn cX7_numberIn 2 (some .int) : Cond) ∈ TBG := tbt_2 (List.mem_of_getElem? (i := 195) rfl) rfl
theorem q279 : (.methodLink RX1 87 yX1_columnLeft : Cond) ∈ TBG := tbt_2 (List.mem_of_getElem? (i := 196) rfl) rfl
theorem q280 : (.instanceMethod yX1_columnLeft : Cond) ∈ TBG := tbt_2 (List.mem_of_getElem? (i := 198) rfl) rfl
theorem q281 : (.code yX1_columnLeft cX1_columnLeft 3 (some .int) : Cond) ∈ TBG := tbt_2 (List.mem_of_getElem? (i := 199) rfl) rfl
theorem q282 : (.methodLinkNest RX1 100 yX7_isFromTo RX7 : Cond) ∈ lw_tbl := tbl_2 (List.mem_of_getElem? (i := 200) rfl)
theorem q283 : (.methodLink RX1 97 yX1_look : Cond) ∈ TBG := tbt_2 (List.mem_of_getElem? (i := 201) rfl) rfl
theorem q284 : (.instanceMethod yX1_look : Cond) ∈ TBG := tbt_2 (List.mem_of_getElem? (i := 203) rfl) rfl
theorem q285 : (.code yX1_look cX1_look 3 (some .int) : Cond) ∈ TBG := tbt_2 (List.mem_of_getElem? (i := 204) rfl) rfl
theorem q286 : (.methodLink RX1 104 yX5_numberAt : Cond) ∈ TBG := tbt_2 (List.mem_of_getElem? (i := 205) rfl) rfl
theorem q287 : (.methodLink RX1 80 yX1_setPlace : Cond) ∈ TBG := tbt_2 (List.mem_of_getElem? (i := 206) rfl) rfl
theorem q288 : (.instanceMethod yX1_setPlace : Cond) ∈ TBG := tbt_2 (List.mem_of_getElem? (i := 208) rfl) rfl
theorem q289 : (.code yX1_setPlace cX1_setPlace 3 none : Cond) ∈ TBG := tbt_2 (List.mem_of_getElem? (i := 209) rfl) rfl
theorem q290 : (.methodLink RX1 50 yX1_pileColumns : Cond) ∈ TBG := tbt_2 (List.mem_of_getElem? (i := 210) rfl) rfl
theorem q291 : (.instanceMethod yX1_pileColumns : Cond) ∈ TBG := tbt_2 (List.mem_of_getElem? (i := 212) rfl) rfl
theorem q292 : (.code yX1_pileColumns cX1_pileColumns 7 none : Cond) ∈ TBG := tbt_2 (List.mem_of_getElem? (i := 213) rfl) rfl
theorem q293 : (.methodLink RX1 84 yX1_rowsAt : Cond) ∈ TBG := tbt_2 (List.mem_of_getElem? (i := 214) rfl) rfl
theorem q294 : (.instanceMethod yX1_rowsAt : Cond) ∈ TBG := tbt_2 (List.mem_of_getElem? (i := 216) rfl) rfl
theorem q295 : (.code yX1_rowsAt cX1_rowsAt 2 (some .int) : Cond) ∈ TBG := tbt_2 (List.mem_of_getElem? (i := 217) rfl) rfl
theorem q296 : (.methodLink RX1 90 yX1_heightAfterThrowing : Cond) ∈ TBG := tbt_2 (List.mem_of_getElem? (i := 218) rfl) rfl
theorem q297 : (.instanceMethod yX1_heightAfterThrowing : Cond) ∈ TBG := tbt_2 (List.mem_of_getElem? (i := 220) rfl) rfl
theorem q298 : (.code yX1_heightAfterThrowing cX1_heightAfterThrowing 8 (some .int) : Cond) ∈ TBG := tbt_2 (List.mem_of_getElem? (i := 221) rfl) rfl
theorem q299 : (.methodLink RX1 94 yX1_rowAt : Cond) ∈ TBG := tbt_2 (List.mem_of_getElem? (i := 222) rfl) rfl
theorem q300 : (.instanceMethod yX1_rowAt : Cond) ∈ TBG := tbt_2 (List.mem_of_getElem? (i := 224) rfl) rfl
theorem q301 : (.code yX1_rowAt cX1_rowAt 3 (some .int) : Cond) ∈ TBG := tbt_2 (List.mem_of_getElem? (i := 225) rfl) rfl
theorem q302 : (.methodLink RX1 54 yX1_fillBetween : Cond) ∈ TBG := tbt_2 (List.mem_of_getElem? (i := 226) rfl) rfl
theorem q303 : (.instanceMethod yX1_fillBetween : Cond) ∈ TBG := tbt_2 (List.mem_of_getElem? (i := 228) rfl) rfl
theorem q304 : (.code yX1_fillBetween cX1_fillBetween 7 none : Cond) ∈ TBG := tbt_2 (List.mem_of_getElem? (i := 229) rfl) rfl
theorem q305 : (.methodLink RX1 68 yX1_placeBy : Cond) ∈ TBG := tbt_2 (List.mem_of_getElem? (i := 230) rfl) rfl
theorem q306 : (.instanceMethod yX1_placeBy : Cond) ∈ TBG := tbt_2 (List.mem_of_getElem? (i := 231) rfl) rfl
theorem q307 : (.selects RX1 yX1_placeBy yX1_placeBy : Cond) ∈ TBG := tbt_2 (List.mem_of_getElem? (i := 232) rfl) rfl
theorem q308 : (.code yX1_placeBy cX1_placeBy 3 (some .int) : Cond) ∈ TBG := tbt_2 (List.mem_of_getElem? (i := 233) rfl) rfl
theorem q309 : (.methodLink RX1 57 yX1_lookAtAll : Cond) ∈ TBG := tbt_2 (List.mem_of_getElem? (i := 234) rfl) rfl
theorem q310 : (.instanceMethod yX1_lookAtAll : Cond) ∈ TBG := tbt_2 (List.mem_of_getElem? (i := 236) rfl) rfl
theorem q311 : (.code yX1_lookAtAll cX1_lookAtAll 2 none : Cond) ∈ TBG := tbt_2 (List.mem_of_getElem? (i := 237) rfl) rfl
theorem q312 : (.methodLink RX7 154 yX1_looksBy : Cond) ∈ TBG := tbt_2 (List.mem_of_getElem? (i := 238) rfl) rfl
theorem q313 : (.instanceMethod yX1_looksBy : Cond) ∈ TBG := tbt_2 (List.mem_of_getElem? (i := 239) rfl) rfl
theorem q314 : (.selects RX1 yX1_looksBy yX1_looksBy : Cond) ∈ TBG := tbt_3 (List.mem_of_getElem? (i := 0) rfl) rfl
theorem q315 : (.code yX1_looksBy cX1_looksBy 2 (some .int) : Cond) ∈ TBG := tbt_3 (List.mem_of_getElem? (i := 1) rfl) rfl
theorem q316 : (.methodLink RL 27 yX7_weigh : Cond) ∈ TBG := tbt_3 (List.mem_of_getElem? (i := 2) rfl) rfl
theorem q317 : (.instanceMethod yX7_weigh : Cond) ∈ TBG := tbt_3 (List.mem_of_getElem? (i := 3) rfl) rfl
theorem q318 : (.selects RX7 yX7_weigh yX7_weigh : Cond) ∈ TBG := tbt_3 (List.mem_of_getElem? (i := 4) rfl) rfl
theorem q319 : (.code yX7_weigh cX7_weigh 2 (some .int) : Cond) ∈ TBG := tbt_3 (List.mem_of_getElem? (i := 5) rfl) rfl
theorem q320 : (.methodLink RX7 171 yX5_addWeight : Cond) ∈ TBG := tbt_3 (List.mem_of_getElem? (i := 8) rfl) rfl
theorem q321 : (.instanceMethod yX5_addWeight : Cond) ∈ TBG := tbt_3 (List.mem_of_getElem? (i := 9) rfl) rfl
theorem q322 : (.selects RX5 yX5_addWeight yX5_addWeight : Cond) ∈ TBG := tbt_3 (List.mem_of_getElem? (i := 10) rfl) rfl
theorem q323 : (.code yX5_addWeight cX5_addWeight 2 none : Cond) ∈ TBG := tbt_3 (List.mem_of_getElem? (i := 11) rfl) rfl
theorem q324 : (.methodLink RL 40 yX7_keep : Cond) ∈ TBG := tbt_3 (List.mem_of_getElem? (i := 12) rfl) rfl
theorem q325 : (.instanceMethod yX7_keep : Cond) ∈ TBG := tbt_3 (List.mem_of_getElem? (i := 13) rfl) rfl
theorem q326 : (.selects RX7 yX7_keep yX7_keep : Cond) ∈ TBG := tbt_3 (List.mem_of_getElem? (i := 14) rfl) rfl
theorem q327 : (.code yX7_keep cX7_keep 2 (some .int) : Cond) ∈ TBG := tbt_3 (List.mem_of_getElem? (i := 15) rfl) rfl
theorem q328 : (.methodLink RX7 211 yX7_slotAt : Cond) ∈ TBG := tbt_3 (List.mem_of_getElem? (i := 17) rfl) rfl
theorem q329 : (.instanceMethod yX7_slotAt : Cond) ∈ TBG := tbt_3 (List.mem_of_getElem? (i := 19) rfl) rfl
theorem q330 : (.code yX7_slotAt cX7_slotAt 2 (some (.object "LeastRows$Slot")) : Cond) ∈ TBG := tbt_3 (List.mem_of_getElem? (i := 20) rfl) rfl
theorem q331 : (.methodLink RX7 215 yX4_fillFrom : Cond) ∈ TBG := tbt_3 (List.mem_of_getElem? (i := 21) rfl) rfl
theorem q332 : (.instanceMethod yX4_fillFrom : Cond) ∈ TBG := tbt_3 (List.mem_of_getElem? (i := 22) rfl) rfl
theorem q333 : (.selects RX4 yX4_fillFrom yX4_fillFrom : Cond) ∈ TBG := tbt_3 (List.mem_of_getElem? (i := 23) rfl) rfl
theorem q334 : (.code yX4_fillFrom cX4_fillFrom 2 none : Cond) ∈ TBG := tbt_3 (List.mem_of_getElem? (i := 24) rfl) rfl
theorem q335 : (.methodLink RX4 20 yX5_copyFrom : Cond) ∈ TBG := tbt_3 (List.mem_of_getElem? (i := 25) rfl) rfl
theorem q336 : (.methodLink RL 43 yX7_goBack : Cond) ∈ TBG := tbt_3 (List.mem_of_getElem? (i := 26) rfl) rfl
theorem q337 : (.instanceMethod yX7_goBack : Cond) ∈ TBG := tbt_3 (List.mem_of_getElem? (i := 27) rfl) rfl
theorem q338 : (.selects RX7 yX7_goBack yX7_goBack : Cond) ∈ TBG := tbt_3 (List.mem_of_getElem? (i := 28) rfl) rfl
theorem q339 : (.code yX7_goBack cX7_goBack 3 (some .int) : Cond) ∈ TBG := tbt_3 (List.mem_of_getElem? (i := 29) rfl) rfl
theorem q340 : (.methodLink RX7 227 yX5_copyFrom : Cond) ∈ TBG := tbt_3 (List.mem_of_getElem? (i := 31) rfl) rfl
theorem q341 : (.methodLink RL 46 yX7_undo : Cond) ∈ TBG := tbt_3 (List.mem_of_getElem? (i := 32) rfl) rfl
theorem q342 : (.instanceMethod yX7_undo : Cond) ∈ TBG := tbt_3 (List.mem_of_getElem? (i := 33) rfl) rfl
theorem q343 : (.selects RX7 yX7_undo yX7_undo : Cond) ∈ TBG := tbt_3 (List.mem_of_getElem? (i := 34) rfl) rfl
theorem q344 : (.code yX7_undo cX7_undo 1 (some .int) : Cond) ∈ TBG := tbt_3 (List.mem_of_getElem? (i := 35) rfl) rfl
theorem q345 : (.methodLink RX7 235 yX2_latest : Cond) ∈ TBG := tbt_3 (List.mem_of_getElem? (i := 37) rfl) rfl
theorem q346 : (.instanceMethod yX2_latest : Cond) ∈ TBG := tbt_3 (List.mem_of_getElem? (i := 38) rfl) rfl
theorem q347 : (.selects RX2 yX2_latest yX2_latest : Cond) ∈ TBG := tbt_3 (List.mem_of_getElem? (i := 39) rfl) rfl
theorem q348 : (.code yX2_latest cX2_latest 1 (some (.object "LeastRows$State")) : Cond) ∈ TBG := tbt_3 (List.mem_of_getElem? (i := 40) rfl) rfl
theorem q349 : (.methodLink RL 61 yX7_count : Cond) ∈ TBG := tbt_3 (List.mem_of_getElem? (i := 41) rfl) rfl
theorem q350 : (.instanceMethod yX7_count : Cond) ∈ TBG := tbt_3 (List.mem_of_getElem? (i := 42) rfl) rfl
theorem q351 : (.selects RX7 yX7_count yX7_count : Cond) ∈ TBG := tbt_3 (List.mem_of_getElem? (i := 43) rfl) rfl
theorem q352 : (.code yX7_count cX7_count 2 (some .int) : Cond) ∈ TBG := tbt_3 (List.mem_of_getElem? (i := 44) rfl) rfl
theorem q353 : (.methodLink RX7 251 yX7_counted : Cond) ∈ TBG := tbt_3 (List.mem_of_getElem? (i := 46) rfl) rfl
theorem q354 : (.instanceMethod yX7_counted : Cond) ∈ TBG := tbt_3 (List.mem_of_getElem? (i := 48) rfl) rfl
theorem q355 : (.code yX7_counted cX7_counted 2 (some .int) : Cond) ∈ TBG := tbt_3 (List.mem_of_getElem? (i := 49) rfl) rfl
theorem q356 : (.methodLink RX7 314 yX5_weightsTogether : Cond) ∈ TBG := tbt_3 (List.mem_of_getElem? (i := 50) rfl) rfl
theorem q357 : (.instanceMethod yX5_weightsTogether : Cond) ∈ TBG := tbt_3 (List.mem_of_getElem? (i := 51) rfl) rfl
theorem q358 : (.selects RX5 yX5_weightsTogether yX5_weightsTogether : Cond) ∈ TBG := tbt_3 (List.mem_of_getElem? (i := 52) rfl) rfl
theorem q359 : (.code yX5_weightsTogether cX5_weightsTogether 3 (some .int) : Cond) ∈ TBG := tbt_3 (List.mem_of_getElem? (i := 53) rfl) rfl
theorem q360 : (.methodLink RX5 49 yX5_weightAt : Cond) ∈ TBG := tbt_3 (List.mem_of_getElem? (i := 54) rfl) rfl
theorem q361 : (.instanceMethod yX5_weightAt : Cond) ∈ TBG := tbt_3 (List.mem_of_getElem? (i := 55) rfl) rfl
theorem q362 : (.selects RX5 yX5_weightAt yX5_weightAt : Cond) ∈ TBG := tbt_3 (List.mem_of_getElem? (i := 56) rfl) rfl
theorem q363 : (.code yX5_weightAt cX5_weightAt 2 (some .int) : Cond) ∈ TBG := tbt_3 (List.mem_of_getElem? (i := 57) rfl) rfl
theorem q364 : (.methodLinkNest RX5 45 yX7_numberIn RX7 : Cond) ∈ lw_tbl := tbl_3 (List.mem_of_getElem? (i := 58) rfl)
theorem q365 : (.methodLink RX7 317 yX1_placesGoneBack : Cond) ∈ TBG := tbt_3 (List.mem_of_getElem? (i := 59) rfl) rfl
theorem q366 : (.instanceMethod yX1_placesGoneBack : Cond) ∈ TBG := tbt_3 (List.mem_of_getElem? (i := 60) rfl) rfl
theorem q367 : (.selects RX1 yX1_placesGoneBack yX1_placesGoneBack : Cond) ∈ TBG := tbt_3 (List.mem_of_getElem? (i := 61) rfl) rfl
theorem q368 : (.code yX1_placesGoneBack cX1_placesGoneBack 3 (some .int) : Cond) ∈ TBG := tbt_3 (List.mem_of_getElem? (i := 62) rfl) rfl
theorem q369 : (.methodLink RL 213 yL_part : Cond) ∈ TBG := tbt_3 (List.mem_of_getElem? (i := 63) rfl) rfl
theorem q370 : (.static yL_part : Cond) ∈ TBG := tbt_3 (List.mem_of_getElem? (i := 64) rfl) rfl
theorem q371 : (.code yL_part cL_part 2 (some .int) : Cond) ∈ TBG := tbt_3 (List.mem_of_getElem? (i := 65) rfl) rfl
theorem q372 : (.constant RL 7 (2147483647) : Cond) ∈ TBG := tbt_3 (List.mem_of_getElem? (i := 66) rfl) rfl
theorem q373 : (.methodLink RL 209 yL_drawn : Cond) ∈ TBG := tbt_3 (List.mem_of_getElem? (i := 67) rfl) rfl
theorem q374 : (.static yL_drawn : Cond) ∈ TBG := tbt_3 (List.mem_of_getElem? (i := 68) rfl) rfl
theorem q375 : (.code yL_drawn cL_drawn 2 (some .int) : Cond) ∈ TBG := tbt_3 (List.mem_of_getElem? (i := 69) rfl) rfl
theorem q376 : (.constant RL 8 (2654435) : Cond) ∈ TBG := tbt_3 (List.mem_of_getElem? (i := 70) rfl) rfl
theorem q377 : (.methodLink RL 97 yL_call : Cond) ∈ TBG := tbt_3 (List.mem_of_getElem? (i := 71) rfl) rfl
theorem q378 : (.static yL_call : Cond) ∈ TBG := tbt_3 (List.mem_of_getElem? (i := 72) rfl) rfl
theorem q379 : (.codeWith yL_call cL_call 7 (some .int) [((0), (274), (275), (76)), ((0), (274), (280), (78)), ((0), (274), (285), (80))] : Cond) ∈ TBG := tbt_3 (List.mem_of_getElem? (i := 73) rfl) rfl
theorem q380 : (.classLink RL 76 "java/lang/IndexOutOfBoundsException" : Cond) ∈ TBG := tbt_3 (List.mem_of_getElem? (i := 74) rfl) rfl
theorem q381 : (.classLink RL 78 "java/lang/IllegalArgumentException" : Cond) ∈ TBG := tbt_3 (List.mem_of_getElem? (i := 75) rfl) rfl
theorem q382 : (.classLink RL 80 "java/lang/IllegalStateException" : Cond) ∈ TBG := tbt_3 (List.mem_of_getElem? (i := 76) rfl) rfl
theorem q383 : (.methodLink RL 9 yX7_size : Cond) ∈ TBG := tbt_3 (List.mem_of_getElem? (i := 77) rfl) rfl
theorem q384 : (.instanceMethod yX7_size : Cond) ∈ TBG := tbt_3 (List.mem_of_getElem? (i := 78) rfl) rfl
theorem q385 : (.selects RX7 yX7_size yX7_size : Cond) ∈ TBG := tbt_3 (List.mem_of_getElem? (i := 79) rfl) rfl
theorem q386 : (.code yX7_size cX7_size 4 (some .int) : Cond) ∈ TBG := tbt_3 (List.mem_of_getElem? (i := 80) rfl) rfl
theorem q387 : (.methodLink RX7 77 yX5_sizeCode : Cond) ∈ TBG := tbt_3 (List.mem_of_getElem? (i := 82) rfl) rfl
theorem q388 : (.instanceMethod yX5_sizeCode : Cond) ∈ TBG := tbt_3 (List.mem_of_getElem? (i := 83) rfl) rfl
theorem q389 : (.selects RX5 yX5_sizeCode yX5_sizeCode : Cond) ∈ TBG := tbt_3 (List.mem_of_getElem? (i := 84) rfl) rfl
theorem q390 : (.code yX5_sizeCode cX5_sizeCode 1 (some .int) : Cond) ∈ TBG := tbt_3 (List.mem_of_getElem? (i := 85) rfl) rfl
theorem q391 : (.methodLink RL 30 yX7_unweigh : Cond) ∈ TBG := tbt_3 (List.mem_of_getElem? (i := 86) rfl) rfl
theorem q392 : (.instanceMethod yX7_unweigh : Cond) ∈ TBG := tbt_3 (List.mem_of_getElem? (i := 87) rfl) rfl
theorem q393 : (.selects RX7 yX7_unweigh yX7_unweigh : Cond) ∈ TBG := tbt_3 (List.mem_of_getElem? (i := 88) rfl) rfl
theorem q394 : (.code yX7_unweigh cX7_unweigh 1 (some .int) : Cond) ∈ TBG := tbt_3 (List.mem_of_getElem? (i := 89) rfl) rfl
theorem q395 : (.methodLink RX7 176 yX5_weightAt : Cond) ∈ TBG := tbt_3 (List.mem_of_getElem? (i := 91) rfl) rfl
theorem q396 : (.methodLink RL 34 yX7_append : Cond) ∈ TBG := tbt_3 (List.mem_of_getElem? (i := 92) rfl) rfl
theorem q397 : (.instanceMethod yX7_append : Cond) ∈ TBG := tbt_3 (List.mem_of_getElem? (i := 93) rfl) rfl
theorem q398 : (.selects RX7 yX7_append yX7_append : Cond) ∈ TBG := tbt_3 (List.mem_of_getElem? (i := 94) rfl) rfl
theorem q399 : (.code yX7_append cX7_append 2 (some .int) : Cond) ∈ TBG := tbt_3 (List.mem_of_getElem? (i := 95) rfl) rfl
theorem q400 : (.methodLink RX7 186 yX6_add : Cond) ∈ TBG := tbt_3 (List.mem_of_getElem? (i := 98) rfl) rfl
theorem q401 : (.instanceMethod yX6_add : Cond) ∈ TBG := tbt_3 (List.mem_of_getElem? (i := 99) rfl) rfl
theorem q402 : (.selects RX6 yX6_add yX6_add : Cond) ∈ TBG := tbt_3 (List.mem_of_getElem? (i := 100) rfl) rfl
theorem q403 : (.code yX6_add cX6_add 2 none : Cond) ∈ TBG := tbt_3 (List.mem_of_getElem? (i := 101) rfl) rfl
theorem q404 : (.methodLinkNest RX6 37 yX7_setIn RX7 : Cond) ∈ lw_tbl := tbl_3 (List.mem_of_getElem? (i := 102) rfl)
theorem q405 : (.methodLink RL 37 yX7_load : Cond) ∈ TBG := tbt_3 (List.mem_of_getElem? (i := 103) rfl) rfl
theorem q406 : (.instanceMethod yX7_load : Cond) ∈ TBG := tbt_3 (List.mem_of_getElem? (i := 104) rfl) rfl
theorem q407 : (.selects RX7 yX7_load yX7_load : Cond) ∈ TBG := tbt_3 (List.mem_of_getElem? (i := 105) rfl) rfl
theorem q408 : (.code yX7_load cX7_load 3 (some .int) : Cond) ∈ TBG := tbt_3 (List.mem_of_getElem? (i := 106) rfl) rfl
theorem q409 : (.methodLink RX7 195 yX6_tellsTable : Cond) ∈ TBG := tbt_3 (List.mem_of_getElem? (i := 107) rfl) rfl
theorem q410 : (.instanceMethod yX6_tellsTable : Cond) ∈ TBG := tbt_3 (List.mem_of_getElem? (i := 108) rfl) rfl
theorem q411 : (.selects RX6 yX6_tellsTable yX6_tellsTable : Cond) ∈ TBG := tbt_3 (List.mem_of_getElem? (i := 109) rfl) rfl
theorem q412 : (.code yX6_tellsTable cX6_tellsTable 1 (some .boolean) : Cond) ∈ TBG := tbt_3 (List.mem_of_getElem? (i := 110) rfl) rfl
theorem q413 : (.methodLink RX6 53 yX6_readToError : Cond) ∈ TBG := tbt_3 (List.mem_of_getElem? (i := 111) rfl) rfl
theorem q414 : (.instanceMethod yX6_readToError : Cond) ∈ TBG := tbt_3 (List.mem_of_getElem? (i := 112) rfl) rfl
theorem q415 : (.selects RX6 yX6_readToError yX6_readToError : Cond) ∈ TBG := tbt_3 (List.mem_of_getElem? (i := 113) rfl) rfl
theorem q416 : (.code yX6_readToError cX6_readToError 2 (some .int) : Cond) ∈ TBG := tbt_3 (List.mem_of_getElem? (i := 114) rfl) rfl
theorem q417 : (.methodLink RX6 45 yX6_codeAt : Cond) ∈ TBG := tbt_3 (List.mem_of_getElem? (i := 115) rfl) rfl
theorem q418 : (.instanceMethod yX6_codeAt : Cond) ∈ TBG := tbt_3 (List.mem_of_getElem? (i := 116) rfl) rfl
theorem q419 : (.selects RX6 yX6_codeAt yX6_codeAt : Cond) ∈ TBG := tbt_3 (List.mem_of_getElem? (i := 117) rfl) rfl
theorem q420 : (.code yX6_codeAt cX6_codeAt 2 (some .int) : Cond) ∈ TBG := tbt_3 (List.mem_of_getElem? (i := 118) rfl) rfl
theorem q421 : (.methodLinkNest RX6 41 yX7_numberIn RX7 : Cond) ∈ lw_tbl := tbl_3 (List.mem_of_getElem? (i := 119) rfl)
theorem q422 : (.methodLink RX6 49 yX6_takes : Cond) ∈ TBG := tbt_3 (List.mem_of_getElem? (i := 120) rfl) rfl
theorem q423 : (.instanceMethod yX6_takes : Cond) ∈ TBG := tbt_3 (List.mem_of_getElem? (i := 122) rfl) rfl
theorem q424 : (.code yX6_takes cX6_takes 2 (some .boolean) : Cond) ∈ TBG := tbt_3 (List.mem_of_getElem? (i := 123) rfl) rfl
theorem q425 : (.methodLinkNest RX6 61 yX7_isFromTo RX7 : Cond) ∈ lw_tbl := tbl_3 (List.mem_of_getElem? (i := 124) rfl)
theorem q426 : (.methodLink RX6 65 yX6_takesDigit : Cond) ∈ TBG := tbt_3 (List.mem_of_getElem? (i := 125) rfl) rfl
theorem q427 : (.instanceMethod yX6_takesDigit : Cond) ∈ TBG := tbt_3 (List.mem_of_getElem? (i := 127) rfl) rfl
theorem q428 : (.code yX6_takesDigit cX6_takesDigit 3 (some .boolean) : Cond) ∈ TBG := tbt_3 (List.mem_of_getElem? (i := 128) rfl) rfl
theorem q429 : (.methodLink RX6 68 yX6_takesComma : Cond) ∈ TBG := tbt_3 (List.mem_of_getElem? (i := 129) rfl) rfl
theorem q430 : (.instanceMethod yX6_takesComma : Cond) ∈ TBG := tbt_3 (List.mem_of_getElem? (i := 131) rfl) rfl
theorem q431 : (.code yX6_takesComma cX6_takesComma 1 (some .boolean) : Cond) ∈ TBG := tbt_3 (List.mem_of_getElem? (i := 132) rfl) rfl
theorem q432 : (.methodLink RX6 71 yX6_takesSlash : Cond) ∈ TBG := tbt_3 (List.mem_of_getElem? (i := 133) rfl) rfl
theorem q433 : (.instanceMethod yX6_takesSlash : Cond) ∈ TBG := tbt_3 (List.mem_of_getElem? (i := 135) rfl) rfl
theorem q434 : (.code yX6_takesSlash cX6_takesSlash 1 (some .boolean) : Cond) ∈ TBG := tbt_3 (List.mem_of_getElem? (i := 136) rfl) rfl
theorem q435 : (.methodLink RX6 57 yX6_isRowFull : Cond) ∈ TBG := tbt_3 (List.mem_of_getElem? (i := 137) rfl) rfl
theorem q436 : (.instanceMethod yX6_isRowFull : Cond) ∈ TBG := tbt_3 (List.mem_of_getElem? (i := 139) rfl) rfl
theorem q437 : (.code yX6_isRowFull cX6_isRowFull 1 (some .boolean) : Cond) ∈ TBG := tbt_3 (List.mem_of_getElem? (i := 140) rfl) rfl
theorem q438 : (.methodLink RX7 200 yX6_rowsTold : Cond) ∈ TBG := tbt_3 (List.mem_of_getElem? (i := 142) rfl) rfl
theorem q439 : (.instanceMethod yX6_rowsTold : Cond) ∈ TBG := tbt_3 (List.mem_of_getElem? (i := 143) rfl) rfl
theorem q440 : (.selects RX6 yX6_rowsTold yX6_rowsTold : Cond) ∈ TBG := tbt_3 (List.mem_of_getElem? (i := 144) rfl) rfl
theorem q441 : (.code yX6_rowsTold cX6_rowsTold 1 (some .int) : Cond) ∈ TBG := tbt_3 (List.mem_of_getElem? (i := 145) rfl) rfl
theorem q442 : (.methodLink RX7 203 yX6_columnsTold : Cond) ∈ TBG := tbt_3 (List.mem_of_getElem? (i := 146) rfl) rfl
theorem q443 : (.instanceMethod yX6_columnsTold : Cond) ∈ TBG := tbt_3 (List.mem_of_getElem? (i := 147) rfl) rfl
theorem q444 : (.selects RX6 yX6_columnsTold yX6_columnsTold : Cond) ∈ TBG := tbt_3 (List.mem_of_getElem? (i := 148) rfl) rfl
theorem q445 : (.code yX6_columnsTold cX6_columnsTold 1 (some .int) : Cond) ∈ TBG := tbt_3 (List.mem_of_getElem? (i := 149) rfl) rfl
theorem q446 : (.methodLink RX7 206 yX6_numberTold : Cond) ∈ TBG := tbt_3 (List.mem_of_getElem? (i := 150) rfl) rfl
theorem q447 : (.instanceMethod yX6_numberTold : Cond) ∈ TBG := tbt_3 (List.mem_of_getElem? (i := 151) rfl) rfl
theorem q448 : (.selects RX6 yX6_numberTold yX6_numberTold : Cond) ∈ TBG := tbt_3 (List.mem_of_getElem? (i := 152) rfl) rfl
theorem q449 : (.code yX6_numberTold cX6_numberTold 3 (some .int) : Cond) ∈ TBG := tbt_3 (List.mem_of_getElem? (i := 153) rfl) rfl
theorem q450 : (.methodLink RX7 189 yX6_clear : Cond) ∈ TBG := tbt_3 (List.mem_of_getElem? (i := 154) rfl) rfl
theorem q451 : (.instanceMethod yX6_clear : Cond) ∈ TBG := tbt_3 (List.mem_of_getElem? (i := 155) rfl) rfl
theorem q452 : (.selects RX6 yX6_clear yX6_clear : Cond) ∈ TBG := tbt_3 (List.mem_of_getElem? (i := 156) rfl) rfl
theorem q453 : (.code yX6_clear cX6_clear 1 none : Cond) ∈ TBG := tbt_3 (List.mem_of_getElem? (i := 157) rfl) rfl
theorem q454 : (.methodLink RL 49 yX7_cell : Cond) ∈ TBG := tbt_3 (List.mem_of_getElem? (i := 158) rfl) rfl
theorem q455 : (.instanceMethod yX7_cell : Cond) ∈ TBG := tbt_3 (List.mem_of_getElem? (i := 159) rfl) rfl
theorem q456 : (.selects RX7 yX7_cell yX7_cell : Cond) ∈ TBG := tbt_3 (List.mem_of_getElem? (i := 160) rfl) rfl
theorem q457 : (.code yX7_cell cX7_cell 3 (some .int) : Cond) ∈ TBG := tbt_3 (List.mem_of_getElem? (i := 161) rfl) rfl
theorem q458 : (.methodLink RL 52 yX7_place : Cond) ∈ TBG := tbt_3 (List.mem_of_getElem? (i := 162) rfl) rfl
theorem q459 : (.instanceMethod yX7_place : Cond) ∈ TBG := tbt_3 (List.mem_of_getElem? (i := 163) rfl) rfl
theorem q460 : (.selects RX7 yX7_place yX7_place : Cond) ∈ TBG := tbt_3 (List.mem_of_getElem? (i := 164) rfl) rfl
theorem q461 : (.code yX7_place cX7_place 3 (some .int) : Cond) ∈ TBG := tbt_3 (List.mem_of_getElem? (i := 165) rfl) rfl
theorem q462 : (.methodLink RX7 241 yX1_placeBy : Cond) ∈ TBG := tbt_3 (List.mem_of_getElem? (i := 167) rfl) rfl
theorem q463 : (.methodLink RL 55 yX7_looks : Cond) ∈ TBG := tbt_3 (List.mem_of_getElem? (i := 168) rfl) rfl
theorem q464 : (.instanceMethod yX7_looks : Cond) ∈ TBG := tbt_3 (List.mem_of_getElem? (i := 169) rfl) rfl
theorem q465 : (.selects RX7 yX7_looks yX7_looks : Cond) ∈ TBG := tbt_3 (List.mem_of_getElem? (i := 170) rfl) rfl
theorem q466 : (.code yX7_looks cX7_looks 2 (some .int) : Cond) ∈ TBG := tbt_3 (List.mem_of_getElem? (i := 171) rfl) rfl
theorem q467 : (.methodLink RL 58 yX7_witness : Cond) ∈ TBG := tbt_3 (List.mem_of_getElem? (i := 172) rfl) rfl
theorem q468 : (.instanceMethod yX7_witness : Cond) ∈ TBG := tbt_3 (List.mem_of_getElem? (i := 173) rfl) rfl
theorem q469 : (.selects RX7 yX7_witness yX7_witness : Cond) ∈ TBG := tbt_3 (List.mem_of_getElem? (i := 174) rfl) rfl
theorem q470 : (.code yX7_witness cX7_witness 2 (some .int) : Cond) ∈ TBG := tbt_3 (List.mem_of_getElem? (i := 175) rfl) rfl
theorem q471 : (.methodLink RX7 246 yX3_told : Cond) ∈ TBG := tbt_3 (List.mem_of_getElem? (i := 177) rfl) rfl
theorem q472 : (.instanceMethod yX3_told : Cond) ∈ TBG := tbt_3 (List.mem_of_getElem? (i := 178) rfl) rfl
theorem q473 : (.selects RX3 yX3_told yX3_told : Cond) ∈ TBG := tbt_3 (List.mem_of_getElem? (i := 179) rfl) rfl
theorem q474 : (.code yX3_told cX3_told 2 (some .int) : Cond) ∈ TBG := tbt_3 (List.mem_of_getElem? (i := 180) rfl) rfl
theorem q475 : (.methodLink RL 64 yX7_weight : Cond) ∈ TBG := tbt_3 (List.mem_of_getElem? (i := 181) rfl) rfl
theorem q476 : (.instanceMethod yX7_weight : Cond) ∈ TBG := tbt_3 (List.mem_of_getElem? (i := 182) rfl) rfl
theorem q477 : (.selects RX7 yX7_weight yX7_weight : Cond) ∈ TBG := tbt_3 (List.mem_of_getElem? (i := 183) rfl) rfl
theorem q478 : (.code yX7_weight cX7_weight 2 (some .int) : Cond) ∈ TBG := tbt_3 (List.mem_of_getElem? (i := 184) rfl) rfl
theorem q479 : (.methodLink RL 67 yX7_cost : Cond) ∈ TBG := tbt_3 (List.mem_of_getElem? (i := 186) rfl) rfl
theorem q480 : (.instanceMethod yX7_cost : Cond) ∈ TBG := tbt_3 (List.mem_of_getElem? (i := 187) rfl) rfl
theorem q481 : (.selects RX7 yX7_cost yX7_cost : Cond) ∈ TBG := tbt_3 (List.mem_of_getElem? (i := 188) rfl) rfl
theorem q482 : (.code yX7_cost cX7_cost 3 (some .int) : Cond) ∈ TBG := tbt_3 (List.mem_of_getElem? (i := 189) rfl) rfl
theorem q483 : (.methodLink RX7 258 yX0_planCuts : Cond) ∈ TBG := tbt_3 (List.mem_of_getElem? (i := 191) rfl) rfl
theorem q484 : (.instanceMethod yX0_planCuts : Cond) ∈ TBG := tbt_3 (List.mem_of_getElem? (i := 192) rfl) rfl
theorem q485 : (.selects RX0 yX0_planCuts yX0_planCuts : Cond) ∈ TBG := tbt_3 (List.mem_of_getElem? (i := 193) rfl) rfl
theorem q486 : (.code yX0_planCuts cX0_planCuts 4 none : Cond) ∈ TBG := tbt_3 (List.mem_of_getElem? (i := 194) rfl) rfl
theorem q487 : (.methodLink RX0 34 yX5_weightAt : Cond) ∈ TBG := tbt_3 (List.mem_of_getElem? (i := 195) rfl) rfl
theorem q488 : (.methodLinkNest RX0 38 yX7_setIn RX7 : Cond) ∈ lw_tbl := tbl_3 (List.mem_of_getElem? (i := 196) rfl)
theorem q489 : (.methodLink RX0 42 yX0_planLastCut : Cond) ∈ TBG := tbt_3 (List.mem_of_getElem? (i := 197) rfl) rfl
theorem q490 : (.instanceMethod yX0_planLastCut : Cond) ∈ TBG := tbt_3 (List.mem_of_getElem? (i := 199) rfl) rfl
theorem q491 : (.code yX0_planLastCut cX0_planLastCut 9 none : Cond) ∈ TBG := tbt_3 (List.mem_of_getElem? (i := 200) rfl) rfl
theorem q492 : (.constant RX0 53 (1000000000) : Cond) ∈ TBG := tbt_3 (List.mem_of_getElem? (i := 201) rfl) rfl
theorem q493 : (.methodLinkNest RX0 46 yX7_numberIn RX7 : Cond) ∈ lw_tbl := tbl_3 (List.mem_of_getElem? (i := 202) rfl)
theorem q494 : (.methodLink RX7 261 yX0_plannedCost : Cond) ∈ TBG := tbt_3 (List.mem_of_getElem? (i := 203) rfl) rfl
theorem q495 : (.instanceMethod yX0_plannedCost : Cond) ∈ TBG := tbt_3 (List.mem_of_getElem? (i := 204) rfl) rfl
theorem q496 : (.selects RX0 yX0_plannedCost yX0_plannedCost : Cond) ∈ TBG := tbt_3 (List.mem_of_getElem? (i := 205) rfl) rfl
theorem q497 : (.code yX0_plannedCost cX0_plannedCost 2 (some .int) : Cond) ∈ TBG := tbt_3 (List.mem_of_getElem? (i := 206) rfl) rfl
theorem q498 : (.methodLink RX7 264 yX0_tryAllCuts : Cond) ∈ TBG := tbt_3 (List.mem_of_getElem? (i := 207) rfl) rfl
theorem q499 : (.instanceMethod yX0_tryAllCuts : Cond) ∈ TBG := tbt_3 (List.mem_of_getElem? (i := 208) rfl) rfl
theorem q500 : (.selects RX0 yX0_tryAllCuts yX0_tryAllCuts : Cond) ∈ TBG := tbt_3 (List.mem_of_getElem? (i := 209) rfl) rfl
theorem q501 : (.code yX0_tryAllCuts cX0_tryAllCuts 2 none : Cond) ∈ TBG := tbt_3 (List.mem_of_getElem? (i := 210) rfl) rfl
theorem q502 : (.methodLink RX0 54 yX0_tryNextPart : Cond) ∈ TBG := tbt_3 (List.mem_of_getElem? (i := 211) rfl) rfl
theorem q503 : (.static yX0_tryNextPart : Cond) ∈ TBG := tbt_3 (List.mem_of_getElem? (i := 212) rfl) rfl
theorem q504 : (.code yX0_tryNextPart cX0_tryNextPart 7 none : Cond) ∈ TBG := tbt_3 (List.mem_of_getElem? (i := 213) rfl) rfl
theorem q505 : (.methodLink RX0 58 yX0_triedCost : Cond) ∈ TBG := tbt_3 (List.mem_of_getElem? (i := 214) rfl) rfl
theorem q506 : (.instanceMethod yX0_triedCost : Cond) ∈ TBG := tbt_3 (List.mem_of_getElem? (i := 215) rfl) rfl
theorem q507 : (.selects RX0 yX0_triedCost yX0_triedCost : Cond) ∈ TBG := tbt_3 (List.mem_of_getElem? (i := 216) rfl) rfl
theorem q508 : (.code yX0_triedCost cX0_triedCost 2 (some .int) : Cond) ∈ TBG := tbt_3 (List.mem_of_getElem? (i := 217) rfl) rfl
theorem q509 : (.methodLink RX0 61 yJ9_min_7cf53 : Cond) ∈ TBG := tbt_3 (List.mem_of_getElem? (i := 218) rfl) rfl
theorem q510 : (.methodLink RX7 267 yX0_triedCost : Cond) ∈ TBG := tbt_3 (List.mem_of_getElem? (i := 219) rfl) rfl
theorem q511 : (.methodLink RL 70 yX7_cut : Cond) ∈ TBG := tbt_3 (List.mem_of_getElem? (i := 220) rfl) rfl
theorem q512 : (.instanceMethod yX7_cut : Cond) ∈ TBG := tbt_3 (List.mem_of_getElem? (i := 221) rfl) rfl
theorem q513 : (.selects RX7 yX7_cut yX7_cut : Cond) ∈ TBG := tbt_3 (List.mem_of_getElem? (i := 222) rfl) rfl
theorem q514 : (.code yX7_cut cX7_cut 3 (some .int) : Cond) ∈ TBG := tbt_3 (List.mem_of_getElem? (i := 223) rfl) rfl
theorem q515 : (.methodLink RX7 272 yX0_plannedCut : Cond) ∈ TBG := tbt_3 (List.mem_of_getElem? (i := 225) rfl) rfl
theorem q516 : (.instanceMethod yX0_plannedCut : Cond) ∈ TBG := tbt_3 (List.mem_of_getElem? (i := 226) rfl) rfl
theorem q517 : (.selects RX0 yX0_plannedCut yX0_plannedCut : Cond) ∈ TBG := tbt_3 (List.mem_of_getElem? (i := 227) rfl) rfl
theorem q518 : (.code yX0_plannedCut cX0_plannedCut 5 (some .int) : Cond) ∈ TBG := tbt_3 (List.mem_of_getElem? (i := 228) rfl) rfl
theorem q519 : (.methodLink RL 73 yX7_fewestParts : Cond) ∈ TBG := tbt_3 (List.mem_of_getElem? (i := 229) rfl) rfl
theorem q520 : (.instanceMethod yX7_fewestParts : Cond) ∈ TBG := tbt_3 (List.mem_of_getElem? (i := 230) rfl) rfl
theorem q521 : (.selects RX7 yX7_fewestParts yX7_fewestParts : Cond) ∈ TBG := tbt_3 (List.mem_of_getElem? (i := 231) rfl) rfl
theorem q522 : (.code yX7_fewestParts cX7_fewestParts 2 (some .int) : Cond) ∈ TBG := tbt_3 (List.mem_of_getElem? (i := 232) rfl) rfl
theorem q523 : (.constant RX7 275 (999999) : Cond) ∈ TBG := tbt_3 (List.mem_of_getElem? (i := 233) rfl) rfl
theorem q524 : (.methodLink RX7 278 yX0_fewestPartsFor : Cond) ∈ TBG := tbt_3 (List.mem_of_getElem? (i := 235) rfl) rfl
theorem q525 : (.instanceMethod yX0_fewestPartsFor : Cond) ∈ TBG := tbt_3 (List.mem_of_getElem? (i := 236) rfl) rfl
theorem q526 : (.selects RX0 yX0_fewestPartsFor yX0_fewestPartsFor : Cond) ∈ TBG := tbt_3 (List.mem_of_getElem? (i := 237) rfl) rfl
theorem q527 : (.code yX0_fewestPartsFor cX0_fewestPartsFor 3 (some .int) : Cond) ∈ TBG := tbt_3 (List.mem_of_getElem? (i := 238) rfl) rfl
theorem q528 : (.methodLink RX0 50 yX0_plannedCost : Cond) ∈ TBG := tbt_3 (List.mem_of_getElem? (i := 239) rfl) rfl
theorem q529 : (.methodLink RL 102 yL_seen : Cond) ∈ TBG := tbt_4 (List.mem_of_getElem? (i := 0) rfl) rfl
theorem q530 : (.static yL_seen : Cond) ∈ TBG := tbt_4 (List.mem_of_getElem? (i := 1) rfl) rfl
theorem q531 : (.code yL_seen cL_seen 4 (some .long) : Cond) ∈ TBG := tbt_4 (List.mem_of_getElem? (i := 2) rfl) rfl
theorem q532 : (.constantLong RL 82 (331) : Cond) ∈ TBG := tbt_4 (List.mem_of_getElem? (i := 3) rfl) rfl
theorem q533 : (.constantLong RL 84 (31) : Cond) ∈ TBG := tbt_4 (List.mem_of_getElem? (i := 4) rfl) rfl
theorem q534 : (.constantLong RL 86 (3) : Cond) ∈ TBG := tbt_4 (List.mem_of_getElem? (i := 5) rfl) rfl
theorem q535 : (.methodLink RL 88 yX7_bound : Cond) ∈ TBG := tbt_4 (List.mem_of_getElem? (i := 6) rfl) rfl
theorem q536 : (.instanceMethod yX7_bound : Cond) ∈ TBG := tbt_4 (List.mem_of_getElem? (i := 7) rfl) rfl
theorem q537 : (.selects RX7 yX7_bound yX7_bound : Cond) ∈ TBG := tbt_4 (List.mem_of_getElem? (i := 8) rfl) rfl
theorem q538 : (.code yX7_bound cX7_bound 3 (some .int) : Cond) ∈ TBG := tbt_4 (List.mem_of_getElem? (i := 9) rfl) rfl
theorem q539 : (.methodLink RL 117 yL_refused : Cond) ∈ TBG := tbt_4 (List.mem_of_getElem? (i := 10) rfl) rfl
theorem q540 : (.static yL_refused : Cond) ∈ TBG := tbt_4 (List.mem_of_getElem? (i := 11) rfl) rfl
theorem q541 : (.code yL_refused cL_refused 5 (some .boolean) : Cond) ∈ TBG := tbt_4 (List.mem_of_getElem? (i := 12) rfl) rfl
theorem q542 : (.methodLink RL 106 yL_refusesOne : Cond) ∈ TBG := tbt_4 (List.mem_of_getElem? (i := 13) rfl) rfl
theorem q543 : (.static yL_refusesOne : Cond) ∈ TBG := tbt_4 (List.mem_of_getElem? (i := 14) rfl) rfl
theorem q544 : (.code yL_refusesOne cL_refusesOne 5 (some .boolean) : Cond) ∈ TBG := tbt_4 (List.mem_of_getElem? (i := 15) rfl) rfl
theorem q545 : (.methodLink RL 92 yL_far : Cond) ∈ TBG := tbt_4 (List.mem_of_getElem? (i := 16) rfl) rfl
theorem q546 : (.static yL_far : Cond) ∈ TBG := tbt_4 (List.mem_of_getElem? (i := 17) rfl) rfl
theorem q547 : (.code yL_far cL_far 3 (some .int) : Cond) ∈ TBG := tbt_4 (List.mem_of_getElem? (i := 18) rfl) rfl
theorem q548 : (.constant RL 91 (-2147483648) : Cond) ∈ TBG := tbt_4 (List.mem_of_getElem? (i := 19) rfl) rfl
theorem q549 : (.constant RL 101 (999999) : Cond) ∈ TBG := tbt_4 (List.mem_of_getElem? (i := 20) rfl) rfl
theorem q550 : (.methodLink RL 199 yL_small : Cond) ∈ TBG := tbt_4 (List.mem_of_getElem? (i := 21) rfl) rfl
theorem q551 : (.static yL_small : Cond) ∈ TBG := tbt_4 (List.mem_of_getElem? (i := 22) rfl) rfl
theorem q552 : (.code yL_small cL_small 1 (some .boolean) : Cond) ∈ TBG := tbt_4 (List.mem_of_getElem? (i := 23) rfl) rfl
theorem q553 : (.methodLink RL 111 yX7_halfShare : Cond) ∈ TBG := tbt_4 (List.mem_of_getElem? (i := 24) rfl) rfl
theorem q554 : (.instanceMethod yX7_halfShare : Cond) ∈ TBG := tbt_4 (List.mem_of_getElem? (i := 25) rfl) rfl
theorem q555 : (.selects RX7 yX7_halfShare yX7_halfShare : Cond) ∈ TBG := tbt_4 (List.mem_of_getElem? (i := 26) rfl) rfl
theorem q556 : (.code yX7_halfShare cX7_halfShare 1 (some .double) : Cond) ∈ TBG := tbt_4 (List.mem_of_getElem? (i := 27) rfl) rfl
theorem q557 : (.methodLink RX7 281 yX1_shareOfHalves : Cond) ∈ TBG := tbt_4 (List.mem_of_getElem? (i := 28) rfl) rfl
theorem q558 : (.instanceMethod yX1_shareOfHalves : Cond) ∈ TBG := tbt_4 (List.mem_of_getElem? (i := 29) rfl) rfl
theorem q559 : (.selects RX1 yX1_shareOfHalves yX1_shareOfHalves : Cond) ∈ TBG := tbt_4 (List.mem_of_getElem? (i := 30) rfl) rfl
theorem q560 : (.code yX1_shareOfHalves cX1_shareOfHalves 2 (some .double) : Cond) ∈ TBG := tbt_4 (List.mem_of_getElem? (i := 31) rfl) rfl
theorem q561 : (.methodLink RX1 72 yX1_looksBy : Cond) ∈ TBG := tbt_4 (List.mem_of_getElem? (i := 32) rfl) rfl
theorem q562 : (.constantDouble RL 115 (4605493568939753472) : Cond) ∈ TBG := tbt_4 (List.mem_of_getElem? (i := 33) rfl) rfl
theorem q563 : (.constantDouble RL 124 (4604930618986332160) : Cond) ∈ TBG := tbt_4 (List.mem_of_getElem? (i := 34) rfl) rfl
theorem q564 : (.methodLink RL 203 yL_weights : Cond) ∈ TBG := tbt_4 (List.mem_of_getElem? (i := 35) rfl) rfl
theorem q565 : (.static yL_weights : Cond) ∈ TBG := tbt_4 (List.mem_of_getElem? (i := 36) rfl) rfl
theorem q566 : (.code yL_weights cL_weights 2 (some .boolean) : Cond) ∈ TBG := tbt_4 (List.mem_of_getElem? (i := 37) rfl) rfl
theorem q567 : (.constant RL 126 (58810) : Cond) ∈ TBG := tbt_4 (List.mem_of_getElem? (i := 38) rfl) rfl
theorem q568 : (.constant RL 127 (357604) : Cond) ∈ TBG := tbt_4 (List.mem_of_getElem? (i := 39) rfl) rfl
theorem q569 : (.constant RL 128 (58822) : Cond) ∈ TBG := tbt_4 (List.mem_of_getElem? (i := 40) rfl) rfl
theorem q570 : (.methodLink RL 206 yL_texts : Cond) ∈ TBG := tbt_4 (List.mem_of_getElem? (i := 41) rfl) rfl
theorem q571 : (.static yL_texts : Cond) ∈ TBG := tbt_4 (List.mem_of_getElem? (i := 42) rfl) rfl
theorem q572 : (.code yL_texts cL_texts 2 (some .boolean) : Cond) ∈ TBG := tbt_4 (List.mem_of_getElem? (i := 43) rfl) rfl
theorem q573 : (.constantLong RL 141 (211194883891) : Cond) ∈ TBG := tbt_4 (List.mem_of_getElem? (i := 44) rfl) rfl
theorem q574 : (.methodLink RL 143 yL_isError : Cond) ∈ TBG := tbt_4 (List.mem_of_getElem? (i := 45) rfl) rfl
theorem q575 : (.static yL_isError : Cond) ∈ TBG := tbt_4 (List.mem_of_getElem? (i := 46) rfl) rfl
theorem q576 : (.code yL_isError cL_isError 6 (some .boolean) : Cond) ∈ TBG := tbt_4 (List.mem_of_getElem? (i := 47) rfl) rfl
theorem q577 : (.methodLink RL 131 yX7_clearBuffer : Cond) ∈ TBG := tbt_4 (List.mem_of_getElem? (i := 48) rfl) rfl
theorem q578 : (.instanceMethod yX7_clearBuffer : Cond) ∈ TBG := tbt_4 (List.mem_of_getElem? (i := 49) rfl) rfl
theorem q579 : (.selects RX7 yX7_clearBuffer yX7_clearBuffer : Cond) ∈ TBG := tbt_4 (List.mem_of_getElem? (i := 50) rfl) rfl
theorem q580 : (.code yX7_clearBuffer cX7_clearBuffer 2 (some .int) : Cond) ∈ TBG := tbt_4 (List.mem_of_getElem? (i := 51) rfl) rfl
theorem q581 : (.methodLink RL 134 yL_types : Cond) ∈ TBG := tbt_4 (List.mem_of_getElem? (i := 52) rfl) rfl
theorem q582 : (.static yL_types : Cond) ∈ TBG := tbt_4 (List.mem_of_getElem? (i := 53) rfl) rfl
theorem q583 : (.code yL_types cL_types 6 (some .boolean) : Cond) ∈ TBG := tbt_4 (List.mem_of_getElem? (i := 54) rfl) rfl
theorem q584 : (.constantLong RL 129 (255) : Cond) ∈ TBG := tbt_4 (List.mem_of_getElem? (i := 55) rfl) rfl
theorem q585 : (.methodLink RL 138 yX7_firstError : Cond) ∈ TBG := tbt_4 (List.mem_of_getElem? (i := 56) rfl) rfl
theorem q586 : (.instanceMethod yX7_firstError : Cond) ∈ TBG := tbt_4 (List.mem_of_getElem? (i := 57) rfl) rfl
theorem q587 : (.selects RX7 yX7_firstError yX7_firstError : Cond) ∈ TBG := tbt_4 (List.mem_of_getElem? (i := 58) rfl) rfl
theorem q588 : (.code yX7_firstError cX7_firstError 1 (some .int) : Cond) ∈ TBG := tbt_4 (List.mem_of_getElem? (i := 59) rfl) rfl
theorem q589 : (.methodLink RX7 192 yX6_readToError : Cond) ∈ TBG := tbt_4 (List.mem_of_getElem? (i := 60) rfl) rfl
theorem q590 : (.constantLong RL 147 (54065890276143) : Cond) ∈ TBG := tbt_4 (List.mem_of_getElem? (i := 61) rfl) rfl
theorem q591 : (.constantLong RL 149 (3543262185137124396) : Cond) ∈ TBG := tbt_4 (List.mem_of_getElem? (i := 62) rfl) rfl
theorem q592 : (.constantLong RL 151 (825176620) : Cond) ∈ TBG := tbt_4 (List.mem_of_getElem? (i := 63) rfl) rfl
theorem q593 : (.constantLong RL 153 (12337) : Cond) ∈ TBG := tbt_4 (List.mem_of_getElem? (i := 64) rfl) rfl
theorem q594 : (.constantLong RL 155 (211261861936) : Cond) ∈ TBG := tbt_4 (List.mem_of_getElem? (i := 65) rfl) rfl
theorem q595 : (.constantLong RL 157 (12588) : Cond) ∈ TBG := tbt_4 (List.mem_of_getElem? (i := 66) rfl) rfl
theorem q596 : (.constantLong RL 159 (47) : Cond) ∈ TBG := tbt_4 (List.mem_of_getElem? (i := 67) rfl) rfl
theorem q597 : (.constantLong RL 161 (4123389851602005809) : Cond) ∈ TBG := tbt_4 (List.mem_of_getElem? (i := 68) rfl) rfl
theorem q598 : (.constantLong RL 163 (48) : Cond) ∈ TBG := tbt_4 (List.mem_of_getElem? (i := 69) rfl) rfl
theorem q599 : (.constantLong RL 165 (3222572) : Cond) ∈ TBG := tbt_4 (List.mem_of_getElem? (i := 70) rfl) rfl
theorem q600 : (.constantLong RL 167 (3223343) : Cond) ∈ TBG := tbt_4 (List.mem_of_getElem? (i := 71) rfl) rfl
theorem q601 : (.constantLong RL 169 (13840867910691960) : Cond) ∈ TBG := tbt_4 (List.mem_of_getElem? (i := 72) rfl) rfl
theorem q602 : (.constantLong RL 171 (3543262172252419116) : Cond) ∈ TBG := tbt_4 (List.mem_of_getElem? (i := 73) rfl) rfl
theorem q603 : (.constantLong RL 173 (3485494) : Cond) ∈ TBG := tbt_4 (List.mem_of_getElem? (i := 74) rfl) rfl
theorem q604 : (.constantLong RL 175 (11569) : Cond) ∈ TBG := tbt_4 (List.mem_of_getElem? (i := 75) rfl) rfl
theorem q605 : (.constantLong RL 177 (12603) : Cond) ∈ TBG := tbt_4 (List.mem_of_getElem? (i := 76) rfl) rfl
theorem q606 : (.constantLong RL 179 (52966345093168) : Cond) ∈ TBG := tbt_4 (List.mem_of_getElem? (i := 77) rfl) rfl
theorem q607 : (.constantLong RL 181 (3543262185137124405) : Cond) ∈ TBG := tbt_4 (List.mem_of_getElem? (i := 78) rfl) rfl
theorem q608 : (.constantLong RL 183 (3553080) : Cond) ∈ TBG := tbt_4 (List.mem_of_getElem? (i := 79) rfl) rfl
theorem q609 : (.constantLong RL 185 (3543261072707039532) : Cond) ∈ TBG := tbt_4 (List.mem_of_getElem? (i := 80) rfl) rfl
theorem q610 : (.constantLong RL 187 (13840863565261873) : Cond) ∈ TBG := tbt_4 (List.mem_of_getElem? (i := 81) rfl) rfl
theorem q611 : (.constantLong RL 189 (211194817585) : Cond) ∈ TBG := tbt_4 (List.mem_of_getElem? (i := 82) rfl) rfl
theorem q612 : (.constantLong RL 191 (3544105510522269999) : Cond) ∈ TBG := tbt_4 (List.mem_of_getElem? (i := 83) rfl) rfl
theorem q613 : (.constantLong RL 193 (3223345) : Cond) ∈ TBG := tbt_4 (List.mem_of_getElem? (i := 84) rfl) rfl
theorem q614 : (.constantLong RL 195 (14966772112370738) : Cond) ∈ TBG := tbt_4 (List.mem_of_getElem? (i := 85) rfl) rfl
theorem q615 : (.constantLong RL 197 (960051513) : Cond) ∈ TBG := tbt_4 (List.mem_of_getElem? (i := 86) rfl) rfl
theorem q616 : (.arrayClass .long : Cond) ∈ TBG := tbt_4 (List.mem_of_getElem? (i := 87) rfl) rfl
theorem q617 : (.selects "java/lang/Throwable" (⟨"java/lang/Throwable", "fillInStackTrace", "(I)Ljava/lang/Throwable;"⟩ : MethodName) (⟨"java/lang/Throwable", "fillInStackTrace", "(I)Ljava/lang/Throwable;"⟩ : MethodName) : Cond) ∈ TBG := tbs (List.mem_of_getElem? (i := 0) rfl) rfl
theorem q618 : (.selects RX2 yX2_stateAt yX2_stateAt : Cond) ∈ TBG := tbs (List.mem_of_getElem? (i := 1) rfl) rfl
theorem q619 : (.selects RX3 yX3_isGreater yX3_isGreater : Cond) ∈ TBG := tbs (List.mem_of_getElem? (i := 2) rfl) rfl
theorem q620 : (.selects RX3 yX3_note yX3_note : Cond) ∈ TBG := tbs (List.mem_of_getElem? (i := 3) rfl) rfl
theorem q621 : (.selects RX7 yX7_isOpen yX7_isOpen : Cond) ∈ TBG := tbs (List.mem_of_getElem? (i := 4) rfl) rfl
theorem q622 : (.selects RX1 yX1_leaveAllColumns yX1_leaveAllColumns : Cond) ∈ TBG := tbs (List.mem_of_getElem? (i := 5) rfl) rfl
theorem q623 : (.selects RX1 yX1_leftmostLeast yX1_leftmostLeast : Cond) ∈ TBG := tbs (List.mem_of_getElem? (i := 6) rfl) rfl
theorem q624 : (.selects RX1 yX1_columnLeft yX1_columnLeft : Cond) ∈ TBG := tbs (List.mem_of_getElem? (i := 7) rfl) rfl
theorem q625 : (.selects RX1 yX1_look yX1_look : Cond) ∈ TBG := tbs (List.mem_of_getElem? (i := 8) rfl) rfl
theorem q626 : (.selects RX1 yX1_setPlace yX1_setPlace : Cond) ∈ TBG := tbs (List.mem_of_getElem? (i := 9) rfl) rfl
theorem q627 : (.selects RX1 yX1_pileColumns yX1_pileColumns : Cond) ∈ TBG := tbs (List.mem_of_getElem? (i := 10) rfl) rfl
theorem q628 : (.selects RX1 yX1_rowsAt yX1_rowsAt : Cond) ∈ TBG := tbs (List.mem_of_getElem? (i := 11) rfl) rfl
theorem q629 : (.selects RX1 yX1_heightAfterThrowing yX1_heightAfterThrowing : Cond) ∈ TBG := tbs (List.mem_of_getElem? (i := 12) rfl) rfl
theorem q630 : (.selects RX1 yX1_rowAt yX1_rowAt : Cond) ∈ TBG := tbs (List.mem_of_getElem? (i := 13) rfl) rfl
theorem q631 : (.selects RX1 yX1_fillBetween yX1_fillBetween : Cond) ∈ TBG := tbs (List.mem_of_getElem? (i := 14) rfl) rfl
theorem q632 : (.selects RX1 yX1_lookAtAll yX1_lookAtAll : Cond) ∈ TBG := tbs (List.mem_of_getElem? (i := 15) rfl) rfl
theorem q633 : (.selects RX7 yX7_slotAt yX7_slotAt : Cond) ∈ TBG := tbs (List.mem_of_getElem? (i := 16) rfl) rfl
theorem q634 : (.selects RX7 yX7_counted yX7_counted : Cond) ∈ TBG := tbs (List.mem_of_getElem? (i := 17) rfl) rfl
theorem q635 : (.selects RX6 yX6_takes yX6_takes : Cond) ∈ TBG := tbs (List.mem_of_getElem? (i := 18) rfl) rfl
theorem q636 : (.selects RX6 yX6_takesDigit yX6_takesDigit : Cond) ∈ TBG := tbs (List.mem_of_getElem? (i := 19) rfl) rfl
theorem q637 : (.selects RX6 yX6_takesComma yX6_takesComma : Cond) ∈ TBG := tbs (List.mem_of_getElem? (i := 20) rfl) rfl
theorem q638 : (.selects RX6 yX6_takesSlash yX6_takesSlash : Cond) ∈ TBG := tbs (List.mem_of_getElem? (i := 21) rfl) rfl
theorem q639 : (.selects RX6 yX6_isRowFull yX6_isRowFull : Cond) ∈ TBG := tbs (List.mem_of_getElem? (i := 22) rfl) rfl
theorem q640 : (.selects RX0 yX0_planLastCut yX0_planLastCut : Cond) ∈ TBG := tbs (List.mem_of_getElem? (i := 23) rfl) rfl
def NWL : List Cond := [.methodLinkNest RX5 37 yX7_setIn RX7, .methodLinkNest RX7 41 yX6_init RX7, .methodLinkNest RX7 55 yX4_init RX7, .methodLinkNest RX5 41 yX7_isFromTo RX7, .methodLinkNest RX5 53 yX7_copyAll RX7, .methodLinkNest RX1 60 yX7_setIn RX7, .methodLinkNest RX1 64 yX7_numberIn RX7, .methodLinkNest RX1 100 yX7_isFromTo RX7, .methodLinkNest RX5 45 yX7_numberIn RX7, .methodLinkNest RX6 37 yX7_setIn RX7, .methodLinkNest RX6 41 yX7_numberIn RX7, .methodLinkNest RX6 61 yX7_isFromTo RX7, .methodLinkNest RX0 38 yX7_setIn RX7, .methodLinkNest RX0 46 yX7_numberIn RX7]
theorem NWL_in : ∀ w ∈ NWL, w ∈ lw_tbl := List.forall_mem_cons.mpr ⟨q30, List.forall_mem_cons.mpr ⟨q94, List.forall_mem_cons.mpr ⟨q121, List.forall_mem_cons.mpr ⟨q147, List.forall_mem_cons.mpr ⟨q206, List.forall_mem_cons.mpr ⟨q269, List.forall_mem_cons.mpr ⟨q276, List.forall_mem_cons.mpr ⟨q282, List.forall_mem_cons.mpr ⟨q364, List.forall_mem_cons.mpr ⟨q404, List.forall_mem_cons.mpr ⟨q421, List.forall_mem_cons.mpr ⟨q425, List.forall_mem_cons.mpr ⟨q488, List.forall_mem_cons.mpr ⟨q493, fun _ h => absurd h List.not_mem_nil⟩⟩⟩⟩⟩⟩⟩⟩⟩⟩⟩⟩⟩⟩
theorem nw0 : (.methodLinkNest RX5 37 yX7_setIn RX7 : Cond) ∈ NWL := List.mem_of_getElem? (i := 0) rfl
theorem nw1 : (.methodLinkNest RX7 41 yX6_init RX7 : Cond) ∈ NWL := List.mem_of_getElem? (i := 1) rfl
theorem nw2 : (.methodLinkNest RX7 55 yX4_init RX7 : Cond) ∈ NWL := List.mem_of_getElem? (i := 2) rfl
theorem nw3 : (.methodLinkNest RX5 41 yX7_isFromTo RX7 : Cond) ∈ NWL := List.mem_of_getElem? (i := 3) rfl
theorem nw4 : (.methodLinkNest RX5 53 yX7_copyAll RX7 : Cond) ∈ NWL := List.mem_of_getElem? (i := 4) rfl
theorem nw5 : (.methodLinkNest RX1 60 yX7_setIn RX7 : Cond) ∈ NWL := List.mem_of_getElem? (i := 5) rfl
theorem nw6 : (.methodLinkNest RX1 64 yX7_numberIn RX7 : Cond) ∈ NWL := List.mem_of_getElem? (i := 6) rfl
theorem nw7 : (.methodLinkNest RX1 100 yX7_isFromTo RX7 : Cond) ∈ NWL := List.mem_of_getElem? (i := 7) rfl
theorem nw8 : (.methodLinkNest RX5 45 yX7_numberIn RX7 : Cond) ∈ NWL := List.mem_of_getElem? (i := 8) rfl
theorem nw9 : (.methodLinkNest RX6 37 yX7_setIn RX7 : Cond) ∈ NWL := List.mem_of_getElem? (i := 9) rfl
theorem nw10 : (.methodLinkNest RX6 41 yX7_numberIn RX7 : Cond) ∈ NWL := List.mem_of_getElem? (i := 10) rfl
theorem nw11 : (.methodLinkNest RX6 61 yX7_isFromTo RX7 : Cond) ∈ NWL := List.mem_of_getElem? (i := 11) rfl
theorem nw12 : (.methodLinkNest RX0 38 yX7_setIn RX7 : Cond) ∈ NWL := List.mem_of_getElem? (i := 12) rfl
theorem nw13 : (.methodLinkNest RX0 46 yX7_numberIn RX7 : Cond) ∈ NWL := List.mem_of_getElem? (i := 13) rfl
theorem ly0_0 : u_lay RX0 TX0 0 ∈ TBG := tbt_1 (List.mem_of_getElem? (i := 135) rfl) rfl
theorem ly0_1 : u_lay RX0 TX0 1 ∈ TBG := tbt_1 (List.mem_of_getElem? (i := 137) rfl) rfl
theorem ly0_2 : u_lay RX0 TX0 2 ∈ TBG := tbt_1 (List.mem_of_getElem? (i := 139) rfl) rfl
theorem ly0_3 : u_lay RX0 TX0 3 ∈ TBG := tbt_1 (List.mem_of_getElem? (i := 141) rfl) rfl
theorem ly0_4 : u_lay RX0 TX0 4 ∈ TBG := tbt_1 (List.mem_of_getElem? (i := 143) rfl) rfl
theorem ixX0 : ∀ w ∈ u_ws RX0 TX0 5, w ∈ TBG := by
  show ∀ w ∈ [u_lay RX0 TX0 0, u_lay RX0 TX0 1, u_lay RX0 TX0 2, u_lay RX0 TX0 3, u_lay RX0 TX0 4], w ∈ TBG
  exact List.forall_mem_cons.mpr ⟨ly0_0, List.forall_mem_cons.mpr ⟨ly0_1, List.forall_mem_cons.mpr ⟨ly0_2, List.forall_mem_cons.mpr ⟨ly0_3, List.forall_mem_cons.mpr ⟨ly0_4, fun _ h => absurd h List.not_mem_nil⟩⟩⟩⟩⟩
theorem ly1_0 : u_lay RX1 TX1 0 ∈ TBG := tbt_1 (List.mem_of_getElem? (i := 109) rfl) rfl
theorem ly1_1 : u_lay RX1 TX1 1 ∈ TBG := tbt_1 (List.mem_of_getElem? (i := 111) rfl) rfl
theorem ly1_2 : u_lay RX1 TX1 2 ∈ TBG := tbt_1 (List.mem_of_getElem? (i := 113) rfl) rfl
theorem ly1_3 : u_lay RX1 TX1 3 ∈ TBG := tbt_1 (List.mem_of_getElem? (i := 115) rfl) rfl
theorem ly1_4 : u_lay RX1 TX1 4 ∈ TBG := tbt_1 (List.mem_of_getElem? (i := 117) rfl) rfl
theorem ly1_5 : u_lay RX1 TX1 5 ∈ TBG := tbt_1 (List.mem_of_getElem? (i := 119) rfl) rfl
theorem ly1_6 : u_lay RX1 TX1 6 ∈ TBG := tbt_1 (List.mem_of_getElem? (i := 121) rfl) rfl
theorem ixX1 : ∀ w ∈ u_ws RX1 TX1 7, w ∈ TBG := by
  show ∀ w ∈ [u_lay RX1 TX1 0, u_lay RX1 TX1 1, u_lay RX1 TX1 2, u_lay RX1 TX1 3, u_lay RX1 TX1 4, u_lay RX1 TX1 5, u_lay RX1 TX1 6], w ∈ TBG
  exact List.forall_mem_cons.mpr ⟨ly1_0, List.forall_mem_cons.mpr ⟨ly1_1, List.forall_mem_cons.mpr ⟨ly1_2, List.forall_mem_cons.mpr ⟨ly1_3, List.forall_mem_cons.mpr ⟨ly1_4, List.forall_mem_cons.mpr ⟨ly1_5, List.forall_mem_cons.mpr ⟨ly1_6, fun _ h => absurd h List.not_mem_nil⟩⟩⟩⟩⟩⟩⟩
theorem ly2_0 : u_lay RX2 TX2 0 ∈ TBG := tbt_1 (List.mem_of_getElem? (i := 191) rfl) rfl
theorem ly2_1 : u_lay RX2 TX2 1 ∈ TBG := tbt_1 (List.mem_of_getElem? (i := 193) rfl) rfl
theorem ly2_2 : u_lay RX2 TX2 2 ∈ TBG := tbt_1 (List.mem_of_getElem? (i := 195) rfl) rfl
theorem ixX2 : ∀ w ∈ u_ws RX2 TX2 3, w ∈ TBG := by
  show ∀ w ∈ [u_lay RX2 TX2 0, u_lay RX2 TX2 1, u_lay RX2 TX2 2], w ∈ TBG
  exact List.forall_mem_cons.mpr ⟨ly2_0, List.forall_mem_cons.mpr ⟨ly2_1, List.forall_mem_cons.mpr ⟨ly2_2, fun _ h => absurd h List.not_mem_nil⟩⟩⟩
theorem ly3_0 : u_lay RX3 TX3 0 ∈ TBG := tbt_1 (List.mem_of_getElem? (i := 85) rfl) rfl
theorem ly3_1 : u_lay RX3 TX3 1 ∈ TBG := tbt_1 (List.mem_of_getElem? (i := 87) rfl) rfl
theorem ly3_2 : u_lay RX3 TX3 2 ∈ TBG := tbt_1 (List.mem_of_getElem? (i := 89) rfl) rfl
theorem ly3_3 : u_lay RX3 TX3 3 ∈ TBG := tbt_1 (List.mem_of_getElem? (i := 91) rfl) rfl
theorem ly3_4 : u_lay RX3 TX3 4 ∈ TBG := tbt_1 (List.mem_of_getElem? (i := 93) rfl) rfl
theorem ixX3 : ∀ w ∈ u_ws RX3 TX3 5, w ∈ TBG := by
  show ∀ w ∈ [u_lay RX3 TX3 0, u_lay RX3 TX3 1, u_lay RX3 TX3 2, u_lay RX3 TX3 3, u_lay RX3 TX3 4], w ∈ TBG
  exact List.forall_mem_cons.mpr ⟨ly3_0, List.forall_mem_cons.mpr ⟨ly3_1, List.forall_mem_cons.mpr ⟨ly3_2, List.forall_mem_cons.mpr ⟨ly3_3, List.forall_mem_cons.mpr ⟨ly3_4, fun _ h => absurd h List.not_mem_nil⟩⟩⟩⟩⟩
theorem ly4_0 : u_lay RX4 TX4 0 ∈ TBG := tbt_1 (List.mem_of_getElem? (i := 210) rfl) rfl
theorem ly4_1 : u_lay RX4 TX4 1 ∈ TBG := tbt_1 (List.mem_of_getElem? (i := 212) rfl) rfl
theorem ixX4 : ∀ w ∈ u_ws RX4 TX4 2, w ∈ TBG := by
  show ∀ w ∈ [u_lay RX4 TX4 0, u_lay RX4 TX4 1], w ∈ TBG
  exact List.forall_mem_cons.mpr ⟨ly4_0, List.forall_mem_cons.mpr ⟨ly4_1, fun _ h => absurd h List.not_mem_nil⟩⟩
theorem ly5_0 : u_lay RX5 TX5 0 ∈ TBG := tbt_1 (List.mem_of_getElem? (i := 52) rfl) rfl
theorem ly5_1 : u_lay RX5 TX5 1 ∈ TBG := tbt_1 (List.mem_of_getElem? (i := 54) rfl) rfl
theorem ly5_2 : u_lay RX5 TX5 2 ∈ TBG := tbt_1 (List.mem_of_getElem? (i := 56) rfl) rfl
theorem ly5_3 : u_lay RX5 TX5 3 ∈ TBG := tbt_1 (List.mem_of_getElem? (i := 58) rfl) rfl
theorem ly5_4 : u_lay RX5 TX5 4 ∈ TBG := tbt_1 (List.mem_of_getElem? (i := 60) rfl) rfl
theorem ly5_5 : u_lay RX5 TX5 5 ∈ TBG := tbt_1 (List.mem_of_getElem? (i := 62) rfl) rfl
theorem ly5_6 : u_lay RX5 TX5 6 ∈ TBG := tbt_1 (List.mem_of_getElem? (i := 64) rfl) rfl
theorem ly5_7 : u_lay RX5 TX5 7 ∈ TBG := tbt_1 (List.mem_of_getElem? (i := 66) rfl) rfl
theorem ixX5 : ∀ w ∈ u_ws RX5 TX5 8, w ∈ TBG := by
  show ∀ w ∈ [u_lay RX5 TX5 0, u_lay RX5 TX5 1, u_lay RX5 TX5 2, u_lay RX5 TX5 3, u_lay RX5 TX5 4, u_lay RX5 TX5 5, u_lay RX5 TX5 6, u_lay RX5 TX5 7], w ∈ TBG
  exact List.forall_mem_cons.mpr ⟨ly5_0, List.forall_mem_cons.mpr ⟨ly5_1, List.forall_mem_cons.mpr ⟨ly5_2, List.forall_mem_cons.mpr ⟨ly5_3, List.forall_mem_cons.mpr ⟨ly5_4, List.forall_mem_cons.mpr ⟨ly5_5, List.forall_mem_cons.mpr ⟨ly5_6, List.forall_mem_cons.mpr ⟨ly5_7, fun _ h => absurd h List.not_mem_nil⟩⟩⟩⟩⟩⟩⟩⟩
theorem ly6_0 : u_lay RX6 TX6 0 ∈ TBG := tbt_1 (List.mem_of_getElem? (i := 161) rfl) rfl
theorem ly6_1 : u_lay RX6 TX6 1 ∈ TBG := tbt_1 (List.mem_of_getElem? (i := 163) rfl) rfl
theorem ly6_2 : u_lay RX6 TX6 2 ∈ TBG := tbt_1 (List.mem_of_getElem? (i := 165) rfl) rfl
theorem ly6_3 : u_lay RX6 TX6 3 ∈ TBG := tbt_1 (List.mem_of_getElem? (i := 167) rfl) rfl
theorem ly6_4 : u_lay RX6 TX6 4 ∈ TBG := tbt_1 (List.mem_of_getElem? (i := 169) rfl) rfl
theorem ly6_5 : u_lay RX6 TX6 5 ∈ TBG := tbt_1 (List.mem_of_getElem? (i := 171) rfl) rfl
theorem ly6_6 : u_lay RX6 TX6 6 ∈ TBG := tbt_1 (List.mem_of_getElem? (i := 173) rfl) rfl
theorem ly6_7 : u_lay RX6 TX6 7 ∈ TBG := tbt_1 (List.mem_of_getElem? (i := 175) rfl) rfl
theorem ixX6 : ∀ w ∈ u_ws RX6 TX6 8, w ∈ TBG := by
  show ∀ w ∈ [u_lay RX6 TX6 0, u_lay RX6 TX6 1, u_lay RX6 TX6 2, u_lay RX6 TX6 3, u_lay RX6 TX6 4, u_lay RX6 TX6 5, u_lay RX6 TX6 6, u_lay RX6 TX6 7], w ∈ TBG
  exact List.forall_mem_cons.mpr ⟨ly6_0, List.forall_mem_cons.mpr ⟨ly6_1, List.forall_mem_cons.mpr ⟨ly6_2, List.forall_mem_cons.mpr ⟨ly6_3, List.forall_mem_cons.mpr ⟨ly6_4, List.forall_mem_cons.mpr ⟨ly6_5, List.forall_mem_cons.mpr ⟨ly6_6, List.forall_mem_cons.mpr ⟨ly6_7, fun _ h => absurd h List.not_mem_nil⟩⟩⟩⟩⟩⟩⟩⟩
theorem ly7_0 : u_lay RX7 TX7 0 ∈ TBG := tbt_1 (List.mem_of_getElem? (i := 223) rfl) rfl
theorem ly7_1 : u_lay RX7 TX7 1 ∈ TBG := tbt_1 (List.mem_of_getElem? (i := 225) rfl) rfl
theorem ly7_2 : u_lay RX7 TX7 2 ∈ TBG := tbt_1 (List.mem_of_getElem? (i := 227) rfl) rfl
theorem ly7_3 : u_lay RX7 TX7 3 ∈ TBG := tbt_1 (List.mem_of_getElem? (i := 229) rfl) rfl
theorem ly7_4 : u_lay RX7 TX7 4 ∈ TBG := tbt_1 (List.mem_of_getElem? (i := 231) rfl) rfl
theorem ly7_5 : u_lay RX7 TX7 5 ∈ TBG := tbt_1 (List.mem_of_getElem? (i := 233) rfl) rfl
theorem ly7_6 : u_lay RX7 TX7 6 ∈ TBG := tbt_1 (List.mem_of_getElem? (i := 235) rfl) rfl
theorem ly7_7 : u_lay RX7 TX7 7 ∈ TBG := tbt_1 (List.mem_of_getElem? (i := 237) rfl) rfl
theorem ixX7 : ∀ w ∈ u_ws RX7 TX7 8, w ∈ TBG := by
  show ∀ w ∈ [u_lay RX7 TX7 0, u_lay RX7 TX7 1, u_lay RX7 TX7 2, u_lay RX7 TX7 3, u_lay RX7 TX7 4, u_lay RX7 TX7 5, u_lay RX7 TX7 6, u_lay RX7 TX7 7], w ∈ TBG
  exact List.forall_mem_cons.mpr ⟨ly7_0, List.forall_mem_cons.mpr ⟨ly7_1, List.forall_mem_cons.mpr ⟨ly7_2, List.forall_mem_cons.mpr ⟨ly7_3, List.forall_mem_cons.mpr ⟨ly7_4, List.forall_mem_cons.mpr ⟨ly7_5, List.forall_mem_cons.mpr ⟨ly7_6, List.forall_mem_cons.mpr ⟨ly7_7, fun _ h => absurd h List.not_mem_nil⟩⟩⟩⟩⟩⟩⟩⟩
end
section
theorem dX0_init_0 : decode cX0_init 0 = .ok (.aload_n 0, 1) := by decide +kernel
theorem dX0_init_1 : decode cX0_init 1 = .ok (.invokespecial 3, 3) := by decide +kernel
theorem dX0_init_4 : decode cX0_init 4 = .ok (.aload_n 0, 1) := by decide +kernel
theorem dX0_init_5 : decode cX0_init 5 = .ok (.bipush 121, 2) := by decide +kernel
theorem dX0_init_7 : decode cX0_init 7 = .ok (.newarray .int, 2) := by decide +kernel
theorem dX0_init_9 : decode cX0_init 9 = .ok (.putfield 11, 3) := by decide +kernel
theorem dX0_init_12 : decode cX0_init 12 = .ok (.aload_n 0, 1) := by decide +kernel
theorem dX0_init_13 : decode cX0_init 13 = .ok (.bipush 121, 2) := by decide +kernel
theorem dX0_init_15 : decode cX0_init 15 = .ok (.newarray .int, 2) := by decide +kernel
theorem dX0_init_17 : decode cX0_init 17 = .ok (.putfield 15, 3) := by decide +kernel
theorem dX0_init_20 : decode cX0_init 20 = .ok (.aload_n 0, 1) := by decide +kernel
theorem dX0_init_21 : decode cX0_init 21 = .ok (.bipush 11, 2) := by decide +kernel
theorem dX0_init_23 : decode cX0_init 23 = .ok (.newarray .int, 2) := by decide +kernel
theorem dX0_init_25 : decode cX0_init 25 = .ok (.putfield 18, 3) := by decide +kernel
theorem dX0_init_28 : decode cX0_init 28 = .ok (.aload_n 0, 1) := by decide +kernel
theorem dX0_init_29 : decode cX0_init 29 = .ok (.bipush 11, 2) := by decide +kernel
theorem dX0_init_31 : decode cX0_init 31 = .ok (.newarray .int, 2) := by decide +kernel
theorem dX0_init_33 : decode cX0_init 33 = .ok (.putfield 21, 3) := by decide +kernel
theorem dX0_init_36 : decode cX0_init 36 = .ok (.aload_n 0, 1) := by decide +kernel
theorem dX0_init_37 : decode cX0_init 37 = .ok (.aload_n 1, 1) := by decide +kernel
theorem dX0_init_38 : decode cX0_init 38 = .ok (.putfield 24, 3) := by decide +kernel
theorem dX0_init_41 : decode cX0_init 41 = .ok (.return_, 1) := by decide +kernel
theorem dX0_planCuts_0 : decode cX0_planCuts 0 = .ok (.iconst 0, 1) := by decide +kernel
theorem dX0_planCuts_1 : decode cX0_planCuts 1 = .ok (.istore_n 1, 1) := by decide +kernel
theorem dX0_planCuts_2 : decode cX0_planCuts 2 = .ok (.iconst 0, 1) := by decide +kernel
theorem dX0_planCuts_3 : decode cX0_planCuts 3 = .ok (.istore_n 2, 1) := by decide +kernel
theorem dX0_planCuts_4 : decode cX0_planCuts 4 = .ok (.iload_n 2, 1) := by decide +kernel
theorem dX0_planCuts_5 : decode cX0_planCuts 5 = .ok (.aload_n 0, 1) := by decide +kernel
theorem dX0_planCuts_6 : decode cX0_planCuts 6 = .ok (.getfield 24, 3) := by decide +kernel
theorem dX0_planCuts_9 : decode cX0_planCuts 9 = .ok (.getfield 28, 3) := by decide +kernel
theorem dX0_planCuts_12 : decode cX0_planCuts 12 = .ok (.if_icmp .ge 31, 3) := by decide +kernel
theorem dX0_planCuts_15 : decode cX0_planCuts 15 = .ok (.iload_n 1, 1) := by decide +kernel
theorem dX0_planCuts_16 : decode cX0_planCuts 16 = .ok (.aload_n 0, 1) := by decide +kernel
theorem dX0_planCuts_17 : decode cX0_planCuts 17 = .ok (.getfield 24, 3) := by decide +kernel
theorem dX0_planCuts_20 : decode cX0_planCuts 20 = .ok (.iload_n 2, 1) := by decide +kernel
theorem dX0_planCuts_21 : decode cX0_planCuts 21 = .ok (.invokevirtual 34, 3) := by decide +kernel
theorem dX0_planCuts_24 : decode cX0_planCuts 24 = .ok (.iadd, 1) := by decide +kernel
theorem dX0_planCuts_25 : decode cX0_planCuts 25 = .ok (.istore_n 1, 1) := by decide +kernel
theorem dX0_planCuts_26 : decode cX0_planCuts 26 = .ok (.aload_n 0, 1) := by decide +kernel
theorem dX0_planCuts_27 : decode cX0_planCuts 27 = .ok (.getfield 18, 3) := by decide +kernel
theorem dX0_planCuts_30 : decode cX0_planCuts 30 = .ok (.iload_n 2, 1) := by decide +kernel
theorem dX0_planCuts_31 : decode cX0_planCuts 31 = .ok (.iconst 1, 1) := by decide +kernel
theorem dX0_planCuts_32 : decode cX0_planCuts 32 = .ok (.iadd, 1) := by decide +kernel
theorem dX0_planCuts_33 : decode cX0_planCuts 33 = .ok (.iload_n 1, 1) := by decide +kernel
theorem dX0_planCuts_34 : decode cX0_planCuts 34 = .ok (.invokestatic 38, 3) := by decide +kernel
theorem dX0_planCuts_37 : decode cX0_planCuts 37 = .ok (.iinc 2 1, 3) := by decide +kernel
theorem dX0_planCuts_40 : decode cX0_planCuts 40 = .ok (.goto (-36), 3) := by decide +kernel
theorem dX0_planCuts_43 : decode cX0_planCuts 43 = .ok (.iconst 1, 1) := by decide +kernel
theorem dX0_planCuts_44 : decode cX0_planCuts 44 = .ok (.istore_n 2, 1) := by decide +kernel
theorem dX0_planCuts_45 : decode cX0_planCuts 45 = .ok (.iload_n 2, 1) := by decide +kernel
theorem dX0_planCuts_46 : decode cX0_planCuts 46 = .ok (.aload_n 0, 1) := by decide +kernel
theorem dX0_planCuts_47 : decode cX0_planCuts 47 = .ok (.getfield 24, 3) := by decide +kernel
theorem dX0_planCuts_50 : decode cX0_planCuts 50 = .ok (.getfield 28, 3) := by decide +kernel
theorem dX0_planCuts_53 : decode cX0_planCuts 53 = .ok (.if_icmp .gt 34, 3) := by decide +kernel
theorem dX0_planCuts_56 : decode cX0_planCuts 56 = .ok (.iload_n 2, 1) := by decide +kernel
theorem dX0_planCuts_57 : decode cX0_planCuts 57 = .ok (.istore_n 3, 1) := by decide +kernel
theorem dX0_planCuts_58 : decode cX0_planCuts 58 = .ok (.iload_n 3, 1) := by decide +kernel
theorem dX0_planCuts_59 : decode cX0_planCuts 59 = .ok (.aload_n 0, 1) := by decide +kernel
theorem dX0_planCuts_60 : decode cX0_planCuts 60 = .ok (.getfield 24, 3) := by decide +kernel
theorem dX0_planCuts_63 : decode cX0_planCuts 63 = .ok (.getfield 28, 3) := by decide +kernel
theorem dX0_planCuts_66 : decode cX0_planCuts 66 = .ok (.if_icmp .gt 15, 3) := by decide +kernel
theorem dX0_planCuts_69 : decode cX0_planCuts 69 = .ok (.aload_n 0, 1) := by decide +kernel
theorem dX0_planCuts_70 : decode cX0_planCuts 70 = .ok (.iload_n 2, 1) := by decide +kernel
theorem dX0_planCuts_71 : decode cX0_planCuts 71 = .ok (.iload_n 3, 1) := by decide +kernel
theorem dX0_planCuts_72 : decode cX0_planCuts 72 = .ok (.invokevirtual 42, 3) := by decide +kernel
theorem dX0_planCuts_75 : decode cX0_planCuts 75 = .ok (.iinc 3 1, 3) := by decide +kernel
theorem dX0_planCuts_78 : decode cX0_planCuts 78 = .ok (.goto (-20), 3) := by decide +kernel
theorem dX0_planCuts_81 : decode cX0_planCuts 81 = .ok (.iinc 2 1, 3) := by decide +kernel
theorem dX0_planCuts_84 : decode cX0_planCuts 84 = .ok (.goto (-39), 3) := by decide +kernel
theorem dX0_planCuts_87 : decode cX0_planCuts 87 = .ok (.return_, 1) := by decide +kernel
theorem dX0_plannedCost_0 : decode cX0_plannedCost 0 = .ok (.aload_n 0, 1) := by decide +kernel
theorem dX0_plannedCost_1 : decode cX0_plannedCost 1 = .ok (.getfield 11, 3) := by decide +kernel
theorem dX0_plannedCost_4 : decode cX0_plannedCost 4 = .ok (.iload_n 1, 1) := by decide +kernel
theorem dX0_plannedCost_5 : decode cX0_plannedCost 5 = .ok (.bipush 11, 2) := by decide +kernel
theorem dX0_plannedCost_7 : decode cX0_plannedCost 7 = .ok (.imul, 1) := by decide +kernel
theorem dX0_plannedCost_8 : decode cX0_plannedCost 8 = .ok (.aload_n 0, 1) := by decide +kernel
theorem dX0_plannedCost_9 : decode cX0_plannedCost 9 = .ok (.getfield 24, 3) := by decide +kernel
theorem dX0_plannedCost_12 : decode cX0_plannedCost 12 = .ok (.getfield 28, 3) := by decide +kernel
theorem dX0_plannedCost_15 : decode cX0_plannedCost 15 = .ok (.iadd, 1) := by decide +kernel
theorem dX0_plannedCost_16 : decode cX0_plannedCost 16 = .ok (.invokestatic 46, 3) := by decide +kernel
theorem dX0_plannedCost_19 : decode cX0_plannedCost 19 = .ok (.ireturn, 1) := by decide +kernel
theorem dX0_plannedCut_0 : decode cX0_plannedCut 0 = .ok (.aload_n 0, 1) := by decide +kernel
theorem dX0_plannedCut_1 : decode cX0_plannedCut 1 = .ok (.getfield 24, 3) := by decide +kernel
theorem dX0_plannedCut_4 : decode cX0_plannedCut 4 = .ok (.getfield 28, 3) := by decide +kernel
theorem dX0_plannedCut_7 : decode cX0_plannedCut 7 = .ok (.istore_n 3, 1) := by decide +kernel
theorem dX0_plannedCut_8 : decode cX0_plannedCut 8 = .ok (.iload_n 1, 1) := by decide +kernel
theorem dX0_plannedCut_9 : decode cX0_plannedCut 9 = .ok (.istore 4, 2) := by decide +kernel
theorem dX0_plannedCut_11 : decode cX0_plannedCut 11 = .ok (.iload 4, 2) := by decide +kernel
theorem dX0_plannedCut_13 : decode cX0_plannedCut 13 = .ok (.iload_n 2, 1) := by decide +kernel
theorem dX0_plannedCut_14 : decode cX0_plannedCut 14 = .ok (.iconst 1, 1) := by decide +kernel
theorem dX0_plannedCut_15 : decode cX0_plannedCut 15 = .ok (.iadd, 1) := by decide +kernel
theorem dX0_plannedCut_16 : decode cX0_plannedCut 16 = .ok (.if_icmp .le 24, 3) := by decide +kernel
theorem dX0_plannedCut_19 : decode cX0_plannedCut 19 = .ok (.aload_n 0, 1) := by decide +kernel
theorem dX0_plannedCut_20 : decode cX0_plannedCut 20 = .ok (.getfield 15, 3) := by decide +kernel
theorem dX0_plannedCut_23 : decode cX0_plannedCut 23 = .ok (.iload 4, 2) := by decide +kernel
theorem dX0_plannedCut_25 : decode cX0_plannedCut 25 = .ok (.bipush 11, 2) := by decide +kernel
theorem dX0_plannedCut_27 : decode cX0_plannedCut 27 = .ok (.imul, 1) := by decide +kernel
theorem dX0_plannedCut_28 : decode cX0_plannedCut 28 = .ok (.iload_n 3, 1) := by decide +kernel
theorem dX0_plannedCut_29 : decode cX0_plannedCut 29 = .ok (.iadd, 1) := by decide +kernel
theorem dX0_plannedCut_30 : decode cX0_plannedCut 30 = .ok (.invokestatic 46, 3) := by decide +kernel
theorem dX0_plannedCut_33 : decode cX0_plannedCut 33 = .ok (.istore_n 3, 1) := by decide +kernel
theorem dX0_plannedCut_34 : decode cX0_plannedCut 34 = .ok (.iinc 4 (-1), 3) := by decide +kernel
theorem dX0_plannedCut_37 : decode cX0_plannedCut 37 = .ok (.goto (-26), 3) := by decide +kernel
theorem dX0_plannedCut_40 : decode cX0_plannedCut 40 = .ok (.iload_n 3, 1) := by decide +kernel
theorem dX0_plannedCut_41 : decode cX0_plannedCut 41 = .ok (.ireturn, 1) := by decide +kernel
theorem dX0_fewestPartsFor_0 : decode cX0_fewestPartsFor 0 = .ok (.iconst 1, 1) := by decide +kernel
theorem dX0_fewestPartsFor_1 : decode cX0_fewestPartsFor 1 = .ok (.istore_n 2, 1) := by decide +kernel
theorem dX0_fewestPartsFor_2 : decode cX0_fewestPartsFor 2 = .ok (.iload_n 2, 1) := by decide +kernel
theorem dX0_fewestPartsFor_3 : decode cX0_fewestPartsFor 3 = .ok (.aload_n 0, 1) := by decide +kernel
theorem dX0_fewestPartsFor_4 : decode cX0_fewestPartsFor 4 = .ok (.getfield 24, 3) := by decide +kernel
theorem dX0_fewestPartsFor_7 : decode cX0_fewestPartsFor 7 = .ok (.getfield 28, 3) := by decide +kernel
theorem dX0_fewestPartsFor_10 : decode cX0_fewestPartsFor 10 = .ok (.if_icmp .gt 20, 3) := by decide +kernel
theorem dX0_fewestPartsFor_13 : decode cX0_fewestPartsFor 13 = .ok (.aload_n 0, 1) := by decide +kernel
theorem dX0_fewestPartsFor_14 : decode cX0_fewestPartsFor 14 = .ok (.iload_n 2, 1) := by decide +kernel
theorem dX0_fewestPartsFor_15 : decode cX0_fewestPartsFor 15 = .ok (.invokevirtual 50, 3) := by decide +kernel
theorem dX0_fewestPartsFor_18 : decode cX0_fewestPartsFor 18 = .ok (.iload_n 1, 1) := by decide +kernel
theorem dX0_fewestPartsFor_19 : decode cX0_fewestPartsFor 19 = .ok (.if_icmp .gt 5, 3) := by decide +kernel
theorem dX0_fewestPartsFor_22 : decode cX0_fewestPartsFor 22 = .ok (.iload_n 2, 1) := by decide +kernel
theorem dX0_fewestPartsFor_23 : decode cX0_fewestPartsFor 23 = .ok (.ireturn, 1) := by decide +kernel
theorem dX0_fewestPartsFor_24 : decode cX0_fewestPartsFor 24 = .ok (.iinc 2 1, 3) := by decide +kernel
theorem dX0_fewestPartsFor_27 : decode cX0_fewestPartsFor 27 = .ok (.goto (-25), 3) := by decide +kernel
theorem dX0_fewestPartsFor_30 : decode cX0_fewestPartsFor 30 = .ok (.iconst (-1), 1) := by decide +kernel
theorem dX0_fewestPartsFor_31 : decode cX0_fewestPartsFor 31 = .ok (.ireturn, 1) := by decide +kernel
theorem dX0_tryAllCuts_0 : decode cX0_tryAllCuts 0 = .ok (.iconst 1, 1) := by decide +kernel
theorem dX0_tryAllCuts_1 : decode cX0_tryAllCuts 1 = .ok (.istore_n 1, 1) := by decide +kernel
theorem dX0_tryAllCuts_2 : decode cX0_tryAllCuts 2 = .ok (.iload_n 1, 1) := by decide +kernel
theorem dX0_tryAllCuts_3 : decode cX0_tryAllCuts 3 = .ok (.aload_n 0, 1) := by decide +kernel
theorem dX0_tryAllCuts_4 : decode cX0_tryAllCuts 4 = .ok (.getfield 24, 3) := by decide +kernel
theorem dX0_tryAllCuts_7 : decode cX0_tryAllCuts 7 = .ok (.getfield 28, 3) := by decide +kernel
theorem dX0_tryAllCuts_10 : decode cX0_tryAllCuts 10 = .ok (.if_icmp .gt 19, 3) := by decide +kernel
theorem dX0_tryAllCuts_13 : decode cX0_tryAllCuts 13 = .ok (.aload_n 0, 1) := by decide +kernel
theorem dX0_tryAllCuts_14 : decode cX0_tryAllCuts 14 = .ok (.getfield 21, 3) := by decide +kernel
theorem dX0_tryAllCuts_17 : decode cX0_tryAllCuts 17 = .ok (.iload_n 1, 1) := by decide +kernel
theorem dX0_tryAllCuts_18 : decode cX0_tryAllCuts 18 = .ok (.ldc 53, 2) := by decide +kernel
theorem dX0_tryAllCuts_20 : decode cX0_tryAllCuts 20 = .ok (.invokestatic 38, 3) := by decide +kernel
theorem dX0_tryAllCuts_23 : decode cX0_tryAllCuts 23 = .ok (.iinc 1 1, 3) := by decide +kernel
theorem dX0_tryAllCuts_26 : decode cX0_tryAllCuts 26 = .ok (.goto (-24), 3) := by decide +kernel
theorem dX0_tryAllCuts_29 : decode cX0_tryAllCuts 29 = .ok (.aload_n 0, 1) := by decide +kernel
theorem dX0_tryAllCuts_30 : decode cX0_tryAllCuts 30 = .ok (.iconst 1, 1) := by decide +kernel
theorem dX0_tryAllCuts_31 : decode cX0_tryAllCuts 31 = .ok (.iconst 0, 1) := by decide +kernel
theorem dX0_tryAllCuts_32 : decode cX0_tryAllCuts 32 = .ok (.iconst 0, 1) := by decide +kernel
theorem dX0_tryAllCuts_33 : decode cX0_tryAllCuts 33 = .ok (.invokestatic 54, 3) := by decide +kernel
theorem dX0_tryAllCuts_36 : decode cX0_tryAllCuts 36 = .ok (.return_, 1) := by decide +kernel
theorem dX0_triedCost_0 : decode cX0_triedCost 0 = .ok (.aload_n 0, 1) := by decide +kernel
theorem dX0_triedCost_1 : decode cX0_triedCost 1 = .ok (.getfield 21, 3) := by decide +kernel
theorem dX0_triedCost_4 : decode cX0_triedCost 4 = .ok (.iload_n 1, 1) := by decide +kernel
theorem dX0_triedCost_5 : decode cX0_triedCost 5 = .ok (.invokestatic 46, 3) := by decide +kernel
theorem dX0_triedCost_8 : decode cX0_triedCost 8 = .ok (.ireturn, 1) := by decide +kernel
theorem dX0_planLastCut_0 : decode cX0_planLastCut 0 = .ok (.ldc 53, 2) := by decide +kernel
theorem dX0_planLastCut_2 : decode cX0_planLastCut 2 = .ok (.istore_n 3, 1) := by decide +kernel
theorem dX0_planLastCut_3 : decode cX0_planLastCut 3 = .ok (.iconst 0, 1) := by decide +kernel
theorem dX0_planLastCut_4 : decode cX0_planLastCut 4 = .ok (.istore 4, 2) := by decide +kernel
theorem dX0_planLastCut_6 : decode cX0_planLastCut 6 = .ok (.iload_n 1, 1) := by decide +kernel
theorem dX0_planLastCut_7 : decode cX0_planLastCut 7 = .ok (.iconst 1, 1) := by decide +kernel
theorem dX0_planLastCut_8 : decode cX0_planLastCut 8 = .ok (.if_icmp .ne 7, 3) := by decide +kernel
theorem dX0_planLastCut_11 : decode cX0_planLastCut 11 = .ok (.iconst 0, 1) := by decide +kernel
theorem dX0_planLastCut_12 : decode cX0_planLastCut 12 = .ok (.goto 6, 3) := by decide +kernel
theorem dX0_planLastCut_15 : decode cX0_planLastCut 15 = .ok (.iload_n 2, 1) := by decide +kernel
theorem dX0_planLastCut_16 : decode cX0_planLastCut 16 = .ok (.iconst 1, 1) := by decide +kernel
theorem dX0_planLastCut_17 : decode cX0_planLastCut 17 = .ok (.isub, 1) := by decide +kernel
theorem dX0_planLastCut_18 : decode cX0_planLastCut 18 = .ok (.istore 5, 2) := by decide +kernel
theorem dX0_planLastCut_20 : decode cX0_planLastCut 20 = .ok (.iload_n 1, 1) := by decide +kernel
theorem dX0_planLastCut_21 : decode cX0_planLastCut 21 = .ok (.iconst 1, 1) := by decide +kernel
theorem dX0_planLastCut_22 : decode cX0_planLastCut 22 = .ok (.isub, 1) := by decide +kernel
theorem dX0_planLastCut_23 : decode cX0_planLastCut 23 = .ok (.istore 6, 2) := by decide +kernel
theorem dX0_planLastCut_25 : decode cX0_planLastCut 25 = .ok (.iload 6, 2) := by decide +kernel
theorem dX0_planLastCut_27 : decode cX0_planLastCut 27 = .ok (.iload 5, 2) := by decide +kernel
theorem dX0_planLastCut_29 : decode cX0_planLastCut 29 = .ok (.if_icmp .gt 66, 3) := by decide +kernel
theorem dX0_planLastCut_32 : decode cX0_planLastCut 32 = .ok (.aload_n 0, 1) := by decide +kernel
theorem dX0_planLastCut_33 : decode cX0_planLastCut 33 = .ok (.getfield 18, 3) := by decide +kernel
theorem dX0_planLastCut_36 : decode cX0_planLastCut 36 = .ok (.iload_n 2, 1) := by decide +kernel
theorem dX0_planLastCut_37 : decode cX0_planLastCut 37 = .ok (.invokestatic 46, 3) := by decide +kernel
theorem dX0_planLastCut_40 : decode cX0_planLastCut 40 = .ok (.aload_n 0, 1) := by decide +kernel
theorem dX0_planLastCut_41 : decode cX0_planLastCut 41 = .ok (.getfield 18, 3) := by decide +kernel
theorem dX0_planLastCut_44 : decode cX0_planLastCut 44 = .ok (.iload 6, 2) := by decide +kernel
theorem dX0_planLastCut_46 : decode cX0_planLastCut 46 = .ok (.invokestatic 46, 3) := by decide +kernel
theorem dX0_planLastCut_49 : decode cX0_planLastCut 49 = .ok (.isub, 1) := by decide +kernel
theorem dX0_planLastCut_50 : decode cX0_planLastCut 50 = .ok (.istore 7, 2) := by decide +kernel
theorem dX0_planLastCut_52 : decode cX0_planLastCut 52 = .ok (.aload_n 0, 1) := by decide +kernel
theorem dX0_planLastCut_53 : decode cX0_planLastCut 53 = .ok (.getfield 11, 3) := by decide +kernel
theorem dX0_planLastCut_56 : decode cX0_planLastCut 56 = .ok (.iload_n 1, 1) := by decide +kernel
theorem dX0_planLastCut_57 : decode cX0_planLastCut 57 = .ok (.iconst 1, 1) := by decide +kernel
theorem dX0_planLastCut_58 : decode cX0_planLastCut 58 = .ok (.isub, 1) := by decide +kernel
theorem dX0_planLastCut_59 : decode cX0_planLastCut 59 = .ok (.bipush 11, 2) := by decide +kernel
theorem dX0_planLastCut_61 : decode cX0_planLastCut 61 = .ok (.imul, 1) := by decide +kernel
theorem dX0_planLastCut_62 : decode cX0_planLastCut 62 = .ok (.iload 6, 2) := by decide +kernel
theorem dX0_planLastCut_64 : decode cX0_planLastCut 64 = .ok (.iadd, 1) := by decide +kernel
theorem dX0_planLastCut_65 : decode cX0_planLastCut 65 = .ok (.invokestatic 46, 3) := by decide +kernel
theorem dX0_planLastCut_68 : decode cX0_planLastCut 68 = .ok (.iload 7, 2) := by decide +kernel
theorem dX0_planLastCut_70 : decode cX0_planLastCut 70 = .ok (.iload 7, 2) := by decide +kernel
theorem dX0_planLastCut_72 : decode cX0_planLastCut 72 = .ok (.imul, 1) := by decide +kernel
theorem dX0_planLastCut_73 : decode cX0_planLastCut 73 = .ok (.iadd, 1) := by decide +kernel
theorem dX0_planLastCut_74 : decode cX0_planLastCut 74 = .ok (.istore 8, 2) := by decide +kernel
theorem dX0_planLastCut_76 : decode cX0_planLastCut 76 = .ok (.iload 8, 2) := by decide +kernel
theorem dX0_planLastCut_78 : decode cX0_planLastCut 78 = .ok (.iload_n 3, 1) := by decide +kernel
theorem dX0_planLastCut_79 : decode cX0_planLastCut 79 = .ok (.if_icmp .ge 10, 3) := by decide +kernel
theorem dX0_planLastCut_82 : decode cX0_planLastCut 82 = .ok (.iload 8, 2) := by decide +kernel
theorem dX0_planLastCut_84 : decode cX0_planLastCut 84 = .ok (.istore_n 3, 1) := by decide +kernel
theorem dX0_planLastCut_85 : decode cX0_planLastCut 85 = .ok (.iload 6, 2) := by decide +kernel
theorem dX0_planLastCut_87 : decode cX0_planLastCut 87 = .ok (.istore 4, 2) := by decide +kernel
theorem dX0_planLastCut_89 : decode cX0_planLastCut 89 = .ok (.iinc 6 1, 3) := by decide +kernel
theorem dX0_planLastCut_92 : decode cX0_planLastCut 92 = .ok (.goto (-67), 3) := by decide +kernel
theorem dX0_planLastCut_95 : decode cX0_planLastCut 95 = .ok (.aload_n 0, 1) := by decide +kernel
theorem dX0_planLastCut_96 : decode cX0_planLastCut 96 = .ok (.getfield 11, 3) := by decide +kernel
theorem dX0_planLastCut_99 : decode cX0_planLastCut 99 = .ok (.iload_n 1, 1) := by decide +kernel
theorem dX0_planLastCut_100 : decode cX0_planLastCut 100 = .ok (.bipush 11, 2) := by decide +kernel
theorem dX0_planLastCut_102 : decode cX0_planLastCut 102 = .ok (.imul, 1) := by decide +kernel
theorem dX0_planLastCut_103 : decode cX0_planLastCut 103 = .ok (.iload_n 2, 1) := by decide +kernel
theorem dX0_planLastCut_104 : decode cX0_planLastCut 104 = .ok (.iadd, 1) := by decide +kernel
theorem dX0_planLastCut_105 : decode cX0_planLastCut 105 = .ok (.iload_n 3, 1) := by decide +kernel
theorem dX0_planLastCut_106 : decode cX0_planLastCut 106 = .ok (.invokestatic 38, 3) := by decide +kernel
theorem dX0_planLastCut_109 : decode cX0_planLastCut 109 = .ok (.aload_n 0, 1) := by decide +kernel
theorem dX0_planLastCut_110 : decode cX0_planLastCut 110 = .ok (.getfield 15, 3) := by decide +kernel
theorem dX0_planLastCut_113 : decode cX0_planLastCut 113 = .ok (.iload_n 1, 1) := by decide +kernel
theorem dX0_planLastCut_114 : decode cX0_planLastCut 114 = .ok (.bipush 11, 2) := by decide +kernel
theorem dX0_planLastCut_116 : decode cX0_planLastCut 116 = .ok (.imul, 1) := by decide +kernel
theorem dX0_planLastCut_117 : decode cX0_planLastCut 117 = .ok (.iload_n 2, 1) := by decide +kernel
theorem dX0_planLastCut_118 : decode cX0_planLastCut 118 = .ok (.iadd, 1) := by decide +kernel
theorem dX0_planLastCut_119 : decode cX0_planLastCut 119 = .ok (.iload 4, 2) := by decide +kernel
theorem dX0_planLastCut_121 : decode cX0_planLastCut 121 = .ok (.invokestatic 38, 3) := by decide +kernel
theorem dX0_planLastCut_124 : decode cX0_planLastCut 124 = .ok (.return_, 1) := by decide +kernel
theorem dX0_tryNextPart_0 : decode cX0_tryNextPart 0 = .ok (.aload_n 0, 1) := by decide +kernel
theorem dX0_tryNextPart_1 : decode cX0_tryNextPart 1 = .ok (.ifnull 9, 3) := by decide +kernel
theorem dX0_tryNextPart_4 : decode cX0_tryNextPart 4 = .ok (.iload_n 1, 1) := by decide +kernel
theorem dX0_tryNextPart_5 : decode cX0_tryNextPart 5 = .ok (.bipush 10, 2) := by decide +kernel
theorem dX0_tryNextPart_7 : decode cX0_tryNextPart 7 = .ok (.if_icmp .le 4, 3) := by decide +kernel
theorem dX0_tryNextPart_10 : decode cX0_tryNextPart 10 = .ok (.return_, 1) := by decide +kernel
theorem dX0_tryNextPart_11 : decode cX0_tryNextPart 11 = .ok (.aload_n 0, 1) := by decide +kernel
theorem dX0_tryNextPart_12 : decode cX0_tryNextPart 12 = .ok (.getfield 24, 3) := by decide +kernel
theorem dX0_tryNextPart_15 : decode cX0_tryNextPart 15 = .ok (.getfield 28, 3) := by decide +kernel
theorem dX0_tryNextPart_18 : decode cX0_tryNextPart 18 = .ok (.istore 4, 2) := by decide +kernel
theorem dX0_tryNextPart_20 : decode cX0_tryNextPart 20 = .ok (.iconst 0, 1) := by decide +kernel
theorem dX0_tryNextPart_21 : decode cX0_tryNextPart 21 = .ok (.istore 5, 2) := by decide +kernel
theorem dX0_tryNextPart_23 : decode cX0_tryNextPart 23 = .ok (.iload_n 2, 1) := by decide +kernel
theorem dX0_tryNextPart_24 : decode cX0_tryNextPart 24 = .ok (.iconst 1, 1) := by decide +kernel
theorem dX0_tryNextPart_25 : decode cX0_tryNextPart 25 = .ok (.iadd, 1) := by decide +kernel
theorem dX0_tryNextPart_26 : decode cX0_tryNextPart 26 = .ok (.istore 6, 2) := by decide +kernel
theorem dX0_tryNextPart_28 : decode cX0_tryNextPart 28 = .ok (.iload 6, 2) := by decide +kernel
theorem dX0_tryNextPart_30 : decode cX0_tryNextPart 30 = .ok (.iload 4, 2) := by decide +kernel
theorem dX0_tryNextPart_32 : decode cX0_tryNextPart 32 = .ok (.if_icmp .gt 74, 3) := by decide +kernel
theorem dX0_tryNextPart_35 : decode cX0_tryNextPart 35 = .ok (.iload 5, 2) := by decide +kernel
theorem dX0_tryNextPart_37 : decode cX0_tryNextPart 37 = .ok (.aload_n 0, 1) := by decide +kernel
theorem dX0_tryNextPart_38 : decode cX0_tryNextPart 38 = .ok (.getfield 24, 3) := by decide +kernel
theorem dX0_tryNextPart_41 : decode cX0_tryNextPart 41 = .ok (.iload 6, 2) := by decide +kernel
theorem dX0_tryNextPart_43 : decode cX0_tryNextPart 43 = .ok (.iconst 1, 1) := by decide +kernel
theorem dX0_tryNextPart_44 : decode cX0_tryNextPart 44 = .ok (.isub, 1) := by decide +kernel
theorem dX0_tryNextPart_45 : decode cX0_tryNextPart 45 = .ok (.invokevirtual 34, 3) := by decide +kernel
theorem dX0_tryNextPart_48 : decode cX0_tryNextPart 48 = .ok (.iadd, 1) := by decide +kernel
theorem dX0_tryNextPart_49 : decode cX0_tryNextPart 49 = .ok (.istore 5, 2) := by decide +kernel
theorem dX0_tryNextPart_51 : decode cX0_tryNextPart 51 = .ok (.iload 6, 2) := by decide +kernel
theorem dX0_tryNextPart_53 : decode cX0_tryNextPart 53 = .ok (.iload 4, 2) := by decide +kernel
theorem dX0_tryNextPart_55 : decode cX0_tryNextPart 55 = .ok (.if_icmp .ge 22, 3) := by decide +kernel
theorem dX0_tryNextPart_58 : decode cX0_tryNextPart 58 = .ok (.aload_n 0, 1) := by decide +kernel
theorem dX0_tryNextPart_59 : decode cX0_tryNextPart 59 = .ok (.iload_n 1, 1) := by decide +kernel
theorem dX0_tryNextPart_60 : decode cX0_tryNextPart 60 = .ok (.iconst 1, 1) := by decide +kernel
theorem dX0_tryNextPart_61 : decode cX0_tryNextPart 61 = .ok (.iadd, 1) := by decide +kernel
theorem dX0_tryNextPart_62 : decode cX0_tryNextPart 62 = .ok (.iload 6, 2) := by decide +kernel
theorem dX0_tryNextPart_64 : decode cX0_tryNextPart 64 = .ok (.iload_n 3, 1) := by decide +kernel
theorem dX0_tryNextPart_65 : decode cX0_tryNextPart 65 = .ok (.iload 5, 2) := by decide +kernel
theorem dX0_tryNextPart_67 : decode cX0_tryNextPart 67 = .ok (.iload 5, 2) := by decide +kernel
theorem dX0_tryNextPart_69 : decode cX0_tryNextPart 69 = .ok (.imul, 1) := by decide +kernel
theorem dX0_tryNextPart_70 : decode cX0_tryNextPart 70 = .ok (.iadd, 1) := by decide +kernel
theorem dX0_tryNextPart_71 : decode cX0_tryNextPart 71 = .ok (.invokestatic 54, 3) := by decide +kernel
theorem dX0_tryNextPart_74 : decode cX0_tryNextPart 74 = .ok (.goto 26, 3) := by decide +kernel
theorem dX0_tryNextPart_77 : decode cX0_tryNextPart 77 = .ok (.aload_n 0, 1) := by decide +kernel
theorem dX0_tryNextPart_78 : decode cX0_tryNextPart 78 = .ok (.getfield 21, 3) := by decide +kernel
theorem dX0_tryNextPart_81 : decode cX0_tryNextPart 81 = .ok (.iload_n 1, 1) := by decide +kernel
theorem dX0_tryNextPart_82 : decode cX0_tryNextPart 82 = .ok (.aload_n 0, 1) := by decide +kernel
theorem dX0_tryNextPart_83 : decode cX0_tryNextPart 83 = .ok (.iload_n 1, 1) := by decide +kernel
theorem dX0_tryNextPart_84 : decode cX0_tryNextPart 84 = .ok (.invokevirtual 58, 3) := by decide +kernel
theorem dX0_tryNextPart_87 : decode cX0_tryNextPart 87 = .ok (.iload_n 3, 1) := by decide +kernel
theorem dX0_tryNextPart_88 : decode cX0_tryNextPart 88 = .ok (.iload 5, 2) := by decide +kernel
theorem dX0_tryNextPart_90 : decode cX0_tryNextPart 90 = .ok (.iload 5, 2) := by decide +kernel
theorem dX0_tryNextPart_92 : decode cX0_tryNextPart 92 = .ok (.imul, 1) := by decide +kernel
theorem dX0_tryNextPart_93 : decode cX0_tryNextPart 93 = .ok (.iadd, 1) := by decide +kernel
theorem dX0_tryNextPart_94 : decode cX0_tryNextPart 94 = .ok (.invokestatic 61, 3) := by decide +kernel
theorem dX0_tryNextPart_97 : decode cX0_tryNextPart 97 = .ok (.invokestatic 38, 3) := by decide +kernel
theorem dX0_tryNextPart_100 : decode cX0_tryNextPart 100 = .ok (.iinc 6 1, 3) := by decide +kernel
theorem dX0_tryNextPart_103 : decode cX0_tryNextPart 103 = .ok (.goto (-75), 3) := by decide +kernel
theorem dX0_tryNextPart_106 : decode cX0_tryNextPart 106 = .ok (.return_, 1) := by decide +kernel
theorem dX1_init_0 : decode cX1_init 0 = .ok (.aload_n 0, 1) := by decide +kernel
theorem dX1_init_1 : decode cX1_init 1 = .ok (.invokespecial 3, 3) := by decide +kernel
theorem dX1_init_4 : decode cX1_init 4 = .ok (.aload_n 0, 1) := by decide +kernel
theorem dX1_init_5 : decode cX1_init 5 = .ok (.bipush 30, 2) := by decide +kernel
theorem dX1_init_7 : decode cX1_init 7 = .ok (.newarray .int, 2) := by decide +kernel
theorem dX1_init_9 : decode cX1_init 9 = .ok (.putfield 9, 3) := by decide +kernel
theorem dX1_init_12 : decode cX1_init 12 = .ok (.aload_n 0, 1) := by decide +kernel
theorem dX1_init_13 : decode cX1_init 13 = .ok (.iconst 3, 1) := by decide +kernel
theorem dX1_init_14 : decode cX1_init 14 = .ok (.newarray .int, 2) := by decide +kernel
theorem dX1_init_16 : decode cX1_init 16 = .ok (.putfield 15, 3) := by decide +kernel
theorem dX1_init_19 : decode cX1_init 19 = .ok (.aload_n 0, 1) := by decide +kernel
theorem dX1_init_20 : decode cX1_init 20 = .ok (.bipush 50, 2) := by decide +kernel
theorem dX1_init_22 : decode cX1_init 22 = .ok (.newarray .int, 2) := by decide +kernel
theorem dX1_init_24 : decode cX1_init 24 = .ok (.putfield 18, 3) := by decide +kernel
theorem dX1_init_27 : decode cX1_init 27 = .ok (.aload_n 0, 1) := by decide +kernel
theorem dX1_init_28 : decode cX1_init 28 = .ok (.iconst 5, 1) := by decide +kernel
theorem dX1_init_29 : decode cX1_init 29 = .ok (.newarray .int, 2) := by decide +kernel
theorem dX1_init_31 : decode cX1_init 31 = .ok (.putfield 21, 3) := by decide +kernel
theorem dX1_init_34 : decode cX1_init 34 = .ok (.aload_n 0, 1) := by decide +kernel
theorem dX1_init_35 : decode cX1_init 35 = .ok (.iconst 0, 1) := by decide +kernel
theorem dX1_init_36 : decode cX1_init 36 = .ok (.putfield 24, 3) := by decide +kernel
theorem dX1_init_39 : decode cX1_init 39 = .ok (.aload_n 0, 1) := by decide +kernel
theorem dX1_init_40 : decode cX1_init 40 = .ok (.iconst 0, 1) := by decide +kernel
theorem dX1_init_41 : decode cX1_init 41 = .ok (.putfield 28, 3) := by decide +kernel
theorem dX1_init_44 : decode cX1_init 44 = .ok (.aload_n 0, 1) := by decide +kernel
theorem dX1_init_45 : decode cX1_init 45 = .ok (.aload_n 1, 1) := by decide +kernel
theorem dX1_init_46 : decode cX1_init 46 = .ok (.putfield 31, 3) := by decide +kernel
theorem dX1_init_49 : decode cX1_init 49 = .ok (.return_, 1) := by decide +kernel
theorem dX1_seek_0 : decode cX1_seek 0 = .ok (.aload_n 0, 1) := by decide +kernel
theorem dX1_seek_1 : decode cX1_seek 1 = .ok (.iload_n 1, 1) := by decide +kernel
theorem dX1_seek_2 : decode cX1_seek 2 = .ok (.putfield 24, 3) := by decide +kernel
theorem dX1_seek_5 : decode cX1_seek 5 = .ok (.aload_n 0, 1) := by decide +kernel
theorem dX1_seek_6 : decode cX1_seek 6 = .ok (.iconst 0, 1) := by decide +kernel
theorem dX1_seek_7 : decode cX1_seek 7 = .ok (.putfield 28, 3) := by decide +kernel
theorem dX1_seek_10 : decode cX1_seek 10 = .ok (.aload_n 0, 1) := by decide +kernel
theorem dX1_seek_11 : decode cX1_seek 11 = .ok (.invokevirtual 35, 3) := by decide +kernel
theorem dX1_seek_14 : decode cX1_seek 14 = .ok (.aload_n 0, 1) := by decide +kernel
theorem dX1_seek_15 : decode cX1_seek 15 = .ok (.getfield 24, 3) := by decide +kernel
theorem dX1_seek_18 : decode cX1_seek 18 = .ok (.iconst 1, 1) := by decide +kernel
theorem dX1_seek_19 : decode cX1_seek 19 = .ok (.if_icmp .ne 31, 3) := by decide +kernel
theorem dX1_seek_22 : decode cX1_seek 22 = .ok (.aload_n 0, 1) := by decide +kernel
theorem dX1_seek_23 : decode cX1_seek 23 = .ok (.iconst 0, 1) := by decide +kernel
theorem dX1_seek_24 : decode cX1_seek 24 = .ok (.aload_n 0, 1) := by decide +kernel
theorem dX1_seek_25 : decode cX1_seek 25 = .ok (.getfield 31, 3) := by decide +kernel
theorem dX1_seek_28 : decode cX1_seek 28 = .ok (.getfield 38, 3) := by decide +kernel
theorem dX1_seek_31 : decode cX1_seek 31 = .ok (.iconst 1, 1) := by decide +kernel
theorem dX1_seek_32 : decode cX1_seek 32 = .ok (.isub, 1) := by decide +kernel
theorem dX1_seek_33 : decode cX1_seek 33 = .ok (.iconst 0, 1) := by decide +kernel
theorem dX1_seek_34 : decode cX1_seek 34 = .ok (.aload_n 0, 1) := by decide +kernel
theorem dX1_seek_35 : decode cX1_seek 35 = .ok (.getfield 31, 3) := by decide +kernel
theorem dX1_seek_38 : decode cX1_seek 38 = .ok (.getfield 43, 3) := by decide +kernel
theorem dX1_seek_41 : decode cX1_seek 41 = .ok (.iconst 1, 1) := by decide +kernel
theorem dX1_seek_42 : decode cX1_seek 42 = .ok (.isub, 1) := by decide +kernel
theorem dX1_seek_43 : decode cX1_seek 43 = .ok (.iconst 0, 1) := by decide +kernel
theorem dX1_seek_44 : decode cX1_seek 44 = .ok (.invokestatic 46, 3) := by decide +kernel
theorem dX1_seek_47 : decode cX1_seek 47 = .ok (.goto 53, 3) := by decide +kernel
theorem dX1_seek_50 : decode cX1_seek 50 = .ok (.aload_n 0, 1) := by decide +kernel
theorem dX1_seek_51 : decode cX1_seek 51 = .ok (.getfield 24, 3) := by decide +kernel
theorem dX1_seek_54 : decode cX1_seek 54 = .ok (.iconst 2, 1) := by decide +kernel
theorem dX1_seek_55 : decode cX1_seek 55 = .ok (.if_icmp .ne 41, 3) := by decide +kernel
theorem dX1_seek_58 : decode cX1_seek 58 = .ok (.iconst 0, 1) := by decide +kernel
theorem dX1_seek_59 : decode cX1_seek 59 = .ok (.istore_n 2, 1) := by decide +kernel
theorem dX1_seek_60 : decode cX1_seek 60 = .ok (.iload_n 2, 1) := by decide +kernel
theorem dX1_seek_61 : decode cX1_seek 61 = .ok (.iconst 4, 1) := by decide +kernel
theorem dX1_seek_62 : decode cX1_seek 62 = .ok (.if_icmp .ge 14, 3) := by decide +kernel
theorem dX1_seek_65 : decode cX1_seek 65 = .ok (.aload_n 0, 1) := by decide +kernel
theorem dX1_seek_66 : decode cX1_seek 66 = .ok (.iload_n 2, 1) := by decide +kernel
theorem dX1_seek_67 : decode cX1_seek 67 = .ok (.invokevirtual 50, 3) := by decide +kernel
theorem dX1_seek_70 : decode cX1_seek 70 = .ok (.iinc 2 1, 3) := by decide +kernel
theorem dX1_seek_73 : decode cX1_seek 73 = .ok (.goto (-13), 3) := by decide +kernel
theorem dX1_seek_76 : decode cX1_seek 76 = .ok (.iconst 3, 1) := by decide +kernel
theorem dX1_seek_77 : decode cX1_seek 77 = .ok (.istore_n 2, 1) := by decide +kernel
theorem dX1_seek_78 : decode cX1_seek 78 = .ok (.iload_n 2, 1) := by decide +kernel
theorem dX1_seek_79 : decode cX1_seek 79 = .ok (.ifCond .lt 14, 3) := by decide +kernel
theorem dX1_seek_82 : decode cX1_seek 82 = .ok (.aload_n 0, 1) := by decide +kernel
theorem dX1_seek_83 : decode cX1_seek 83 = .ok (.iload_n 2, 1) := by decide +kernel
theorem dX1_seek_84 : decode cX1_seek 84 = .ok (.invokevirtual 54, 3) := by decide +kernel
theorem dX1_seek_87 : decode cX1_seek 87 = .ok (.iinc 2 (-1), 3) := by decide +kernel
theorem dX1_seek_90 : decode cX1_seek 90 = .ok (.goto (-12), 3) := by decide +kernel
theorem dX1_seek_93 : decode cX1_seek 93 = .ok (.goto 7, 3) := by decide +kernel
theorem dX1_seek_96 : decode cX1_seek 96 = .ok (.aload_n 0, 1) := by decide +kernel
theorem dX1_seek_97 : decode cX1_seek 97 = .ok (.invokevirtual 57, 3) := by decide +kernel
theorem dX1_seek_100 : decode cX1_seek 100 = .ok (.aload_n 0, 1) := by decide +kernel
theorem dX1_seek_101 : decode cX1_seek 101 = .ok (.getfield 15, 3) := by decide +kernel
theorem dX1_seek_104 : decode cX1_seek 104 = .ok (.aload_n 0, 1) := by decide +kernel
theorem dX1_seek_105 : decode cX1_seek 105 = .ok (.getfield 24, 3) := by decide +kernel
theorem dX1_seek_108 : decode cX1_seek 108 = .ok (.aload_n 0, 1) := by decide +kernel
theorem dX1_seek_109 : decode cX1_seek 109 = .ok (.getfield 28, 3) := by decide +kernel
theorem dX1_seek_112 : decode cX1_seek 112 = .ok (.invokestatic 60, 3) := by decide +kernel
theorem dX1_seek_115 : decode cX1_seek 115 = .ok (.return_, 1) := by decide +kernel
theorem dX1_looksBy_0 : decode cX1_looksBy 0 = .ok (.aload_n 0, 1) := by decide +kernel
theorem dX1_looksBy_1 : decode cX1_looksBy 1 = .ok (.getfield 15, 3) := by decide +kernel
theorem dX1_looksBy_4 : decode cX1_looksBy 4 = .ok (.iload_n 1, 1) := by decide +kernel
theorem dX1_looksBy_5 : decode cX1_looksBy 5 = .ok (.invokestatic 64, 3) := by decide +kernel
theorem dX1_looksBy_8 : decode cX1_looksBy 8 = .ok (.ireturn, 1) := by decide +kernel
theorem dX1_placeBy_0 : decode cX1_placeBy 0 = .ok (.aload_n 0, 1) := by decide +kernel
theorem dX1_placeBy_1 : decode cX1_placeBy 1 = .ok (.getfield 9, 3) := by decide +kernel
theorem dX1_placeBy_4 : decode cX1_placeBy 4 = .ok (.iload_n 1, 1) := by decide +kernel
theorem dX1_placeBy_5 : decode cX1_placeBy 5 = .ok (.bipush 10, 2) := by decide +kernel
theorem dX1_placeBy_7 : decode cX1_placeBy 7 = .ok (.imul, 1) := by decide +kernel
theorem dX1_placeBy_8 : decode cX1_placeBy 8 = .ok (.iload_n 2, 1) := by decide +kernel
theorem dX1_placeBy_9 : decode cX1_placeBy 9 = .ok (.iadd, 1) := by decide +kernel
theorem dX1_placeBy_10 : decode cX1_placeBy 10 = .ok (.invokestatic 64, 3) := by decide +kernel
theorem dX1_placeBy_13 : decode cX1_placeBy 13 = .ok (.ireturn, 1) := by decide +kernel
theorem dX1_placesGoneBack_0 : decode cX1_placesGoneBack 0 = .ok (.iconst 0, 1) := by decide +kernel
theorem dX1_placesGoneBack_1 : decode cX1_placesGoneBack 1 = .ok (.istore_n 1, 1) := by decide +kernel
theorem dX1_placesGoneBack_2 : decode cX1_placesGoneBack 2 = .ok (.iconst 1, 1) := by decide +kernel
theorem dX1_placesGoneBack_3 : decode cX1_placesGoneBack 3 = .ok (.istore_n 2, 1) := by decide +kernel
theorem dX1_placesGoneBack_4 : decode cX1_placesGoneBack 4 = .ok (.iload_n 2, 1) := by decide +kernel
theorem dX1_placesGoneBack_5 : decode cX1_placesGoneBack 5 = .ok (.aload_n 0, 1) := by decide +kernel
theorem dX1_placesGoneBack_6 : decode cX1_placesGoneBack 6 = .ok (.getfield 31, 3) := by decide +kernel
theorem dX1_placesGoneBack_9 : decode cX1_placesGoneBack 9 = .ok (.getfield 38, 3) := by decide +kernel
theorem dX1_placesGoneBack_12 : decode cX1_placesGoneBack 12 = .ok (.if_icmp .ge 29, 3) := by decide +kernel
theorem dX1_placesGoneBack_15 : decode cX1_placesGoneBack 15 = .ok (.aload_n 0, 1) := by decide +kernel
theorem dX1_placesGoneBack_16 : decode cX1_placesGoneBack 16 = .ok (.iconst 0, 1) := by decide +kernel
theorem dX1_placesGoneBack_17 : decode cX1_placesGoneBack 17 = .ok (.iload_n 2, 1) := by decide +kernel
theorem dX1_placesGoneBack_18 : decode cX1_placesGoneBack 18 = .ok (.invokevirtual 68, 3) := by decide +kernel
theorem dX1_placesGoneBack_21 : decode cX1_placesGoneBack 21 = .ok (.aload_n 0, 1) := by decide +kernel
theorem dX1_placesGoneBack_22 : decode cX1_placesGoneBack 22 = .ok (.iconst 0, 1) := by decide +kernel
theorem dX1_placesGoneBack_23 : decode cX1_placesGoneBack 23 = .ok (.iload_n 2, 1) := by decide +kernel
theorem dX1_placesGoneBack_24 : decode cX1_placesGoneBack 24 = .ok (.iconst 1, 1) := by decide +kernel
theorem dX1_placesGoneBack_25 : decode cX1_placesGoneBack 25 = .ok (.isub, 1) := by decide +kernel
theorem dX1_placesGoneBack_26 : decode cX1_placesGoneBack 26 = .ok (.invokevirtual 68, 3) := by decide +kernel
theorem dX1_placesGoneBack_29 : decode cX1_placesGoneBack 29 = .ok (.if_icmp .ge 6, 3) := by decide +kernel
theorem dX1_placesGoneBack_32 : decode cX1_placesGoneBack 32 = .ok (.iinc 1 1, 3) := by decide +kernel
theorem dX1_placesGoneBack_35 : decode cX1_placesGoneBack 35 = .ok (.iinc 2 1, 3) := by decide +kernel
theorem dX1_placesGoneBack_38 : decode cX1_placesGoneBack 38 = .ok (.goto (-34), 3) := by decide +kernel
theorem dX1_placesGoneBack_41 : decode cX1_placesGoneBack 41 = .ok (.iload_n 1, 1) := by decide +kernel
theorem dX1_placesGoneBack_42 : decode cX1_placesGoneBack 42 = .ok (.ireturn, 1) := by decide +kernel
theorem dX1_shareOfHalves_0 : decode cX1_shareOfHalves 0 = .ok (.aload_n 0, 1) := by decide +kernel
theorem dX1_shareOfHalves_1 : decode cX1_shareOfHalves 1 = .ok (.iconst 0, 1) := by decide +kernel
theorem dX1_shareOfHalves_2 : decode cX1_shareOfHalves 2 = .ok (.invokevirtual 72, 3) := by decide +kernel
theorem dX1_shareOfHalves_5 : decode cX1_shareOfHalves 5 = .ok (.istore_n 1, 1) := by decide +kernel
theorem dX1_shareOfHalves_6 : decode cX1_shareOfHalves 6 = .ok (.iload_n 1, 1) := by decide +kernel
theorem dX1_shareOfHalves_7 : decode cX1_shareOfHalves 7 = .ok (.ifCond .gt 7, 3) := by decide +kernel
theorem dX1_shareOfHalves_10 : decode cX1_shareOfHalves 10 = .ok (.dconst 0, 1) := by decide +kernel
theorem dX1_shareOfHalves_11 : decode cX1_shareOfHalves 11 = .ok (.goto 12, 3) := by decide +kernel
theorem dX1_shareOfHalves_14 : decode cX1_shareOfHalves 14 = .ok (.aload_n 0, 1) := by decide +kernel
theorem dX1_shareOfHalves_15 : decode cX1_shareOfHalves 15 = .ok (.iconst 1, 1) := by decide +kernel
theorem dX1_shareOfHalves_16 : decode cX1_shareOfHalves 16 = .ok (.invokevirtual 72, 3) := by decide +kernel
theorem dX1_shareOfHalves_19 : decode cX1_shareOfHalves 19 = .ok (.i2d, 1) := by decide +kernel
theorem dX1_shareOfHalves_20 : decode cX1_shareOfHalves 20 = .ok (.iload_n 1, 1) := by decide +kernel
theorem dX1_shareOfHalves_21 : decode cX1_shareOfHalves 21 = .ok (.i2d, 1) := by decide +kernel
theorem dX1_shareOfHalves_22 : decode cX1_shareOfHalves 22 = .ok (.ddiv, 1) := by decide +kernel
theorem dX1_shareOfHalves_23 : decode cX1_shareOfHalves 23 = .ok (.dreturn, 1) := by decide +kernel
theorem dX1_leaveAllColumns_0 : decode cX1_leaveAllColumns 0 = .ok (.iconst 0, 1) := by decide +kernel
theorem dX1_leaveAllColumns_1 : decode cX1_leaveAllColumns 1 = .ok (.istore_n 1, 1) := by decide +kernel
theorem dX1_leaveAllColumns_2 : decode cX1_leaveAllColumns 2 = .ok (.iload_n 1, 1) := by decide +kernel
theorem dX1_leaveAllColumns_3 : decode cX1_leaveAllColumns 3 = .ok (.aload_n 0, 1) := by decide +kernel
theorem dX1_leaveAllColumns_4 : decode cX1_leaveAllColumns 4 = .ok (.getfield 31, 3) := by decide +kernel
theorem dX1_leaveAllColumns_7 : decode cX1_leaveAllColumns 7 = .ok (.getfield 43, 3) := by decide +kernel
theorem dX1_leaveAllColumns_10 : decode cX1_leaveAllColumns 10 = .ok (.if_icmp .ge 18, 3) := by decide +kernel
theorem dX1_leaveAllColumns_13 : decode cX1_leaveAllColumns 13 = .ok (.aload_n 0, 1) := by decide +kernel
theorem dX1_leaveAllColumns_14 : decode cX1_leaveAllColumns 14 = .ok (.getfield 18, 3) := by decide +kernel
theorem dX1_leaveAllColumns_17 : decode cX1_leaveAllColumns 17 = .ok (.iload_n 1, 1) := by decide +kernel
theorem dX1_leaveAllColumns_18 : decode cX1_leaveAllColumns 18 = .ok (.iload_n 1, 1) := by decide +kernel
theorem dX1_leaveAllColumns_19 : decode cX1_leaveAllColumns 19 = .ok (.invokestatic 60, 3) := by decide +kernel
theorem dX1_leaveAllColumns_22 : decode cX1_leaveAllColumns 22 = .ok (.iinc 1 1, 3) := by decide +kernel
theorem dX1_leaveAllColumns_25 : decode cX1_leaveAllColumns 25 = .ok (.goto (-23), 3) := by decide +kernel
theorem dX1_leaveAllColumns_28 : decode cX1_leaveAllColumns 28 = .ok (.aload_n 0, 1) := by decide +kernel
theorem dX1_leaveAllColumns_29 : decode cX1_leaveAllColumns 29 = .ok (.getfield 21, 3) := by decide +kernel
theorem dX1_leaveAllColumns_32 : decode cX1_leaveAllColumns 32 = .ok (.iconst 0, 1) := by decide +kernel
theorem dX1_leaveAllColumns_33 : decode cX1_leaveAllColumns 33 = .ok (.aload_n 0, 1) := by decide +kernel
theorem dX1_leaveAllColumns_34 : decode cX1_leaveAllColumns 34 = .ok (.getfield 31, 3) := by decide +kernel
theorem dX1_leaveAllColumns_37 : decode cX1_leaveAllColumns 37 = .ok (.getfield 43, 3) := by decide +kernel
theorem dX1_leaveAllColumns_40 : decode cX1_leaveAllColumns 40 = .ok (.invokestatic 60, 3) := by decide +kernel
theorem dX1_leaveAllColumns_43 : decode cX1_leaveAllColumns 43 = .ok (.return_, 1) := by decide +kernel
theorem dX1_lookAtAll_0 : decode cX1_lookAtAll 0 = .ok (.iconst 0, 1) := by decide +kernel
theorem dX1_lookAtAll_1 : decode cX1_lookAtAll 1 = .ok (.istore_n 1, 1) := by decide +kernel
theorem dX1_lookAtAll_2 : decode cX1_lookAtAll 2 = .ok (.iload_n 1, 1) := by decide +kernel
theorem dX1_lookAtAll_3 : decode cX1_lookAtAll 3 = .ok (.aload_n 0, 1) := by decide +kernel
theorem dX1_lookAtAll_4 : decode cX1_lookAtAll 4 = .ok (.getfield 31, 3) := by decide +kernel
theorem dX1_lookAtAll_7 : decode cX1_lookAtAll 7 = .ok (.getfield 38, 3) := by decide +kernel
theorem dX1_lookAtAll_10 : decode cX1_lookAtAll 10 = .ok (.if_icmp .ge 30, 3) := by decide +kernel
theorem dX1_lookAtAll_13 : decode cX1_lookAtAll 13 = .ok (.aload_n 0, 1) := by decide +kernel
theorem dX1_lookAtAll_14 : decode cX1_lookAtAll 14 = .ok (.iload_n 1, 1) := by decide +kernel
theorem dX1_lookAtAll_15 : decode cX1_lookAtAll 15 = .ok (.aload_n 0, 1) := by decide +kernel
theorem dX1_lookAtAll_16 : decode cX1_lookAtAll 16 = .ok (.iload_n 1, 1) := by decide +kernel
theorem dX1_lookAtAll_17 : decode cX1_lookAtAll 17 = .ok (.iconst 0, 1) := by decide +kernel
theorem dX1_lookAtAll_18 : decode cX1_lookAtAll 18 = .ok (.iconst 0, 1) := by decide +kernel
theorem dX1_lookAtAll_19 : decode cX1_lookAtAll 19 = .ok (.aload_n 0, 1) := by decide +kernel
theorem dX1_lookAtAll_20 : decode cX1_lookAtAll 20 = .ok (.getfield 31, 3) := by decide +kernel
theorem dX1_lookAtAll_23 : decode cX1_lookAtAll 23 = .ok (.getfield 43, 3) := by decide +kernel
theorem dX1_lookAtAll_26 : decode cX1_lookAtAll 26 = .ok (.iconst 1, 1) := by decide +kernel
theorem dX1_lookAtAll_27 : decode cX1_lookAtAll 27 = .ok (.isub, 1) := by decide +kernel
theorem dX1_lookAtAll_28 : decode cX1_lookAtAll 28 = .ok (.invokevirtual 76, 3) := by decide +kernel
theorem dX1_lookAtAll_31 : decode cX1_lookAtAll 31 = .ok (.invokevirtual 80, 3) := by decide +kernel
theorem dX1_lookAtAll_34 : decode cX1_lookAtAll 34 = .ok (.iinc 1 1, 3) := by decide +kernel
theorem dX1_lookAtAll_37 : decode cX1_lookAtAll 37 = .ok (.goto (-35), 3) := by decide +kernel
theorem dX1_lookAtAll_40 : decode cX1_lookAtAll 40 = .ok (.return_, 1) := by decide +kernel
theorem dX1_halve_0 : decode cX1_halve 0 = .ok (.aload_n 0, 1) := by decide +kernel
theorem dX1_halve_1 : decode cX1_halve 1 = .ok (.ifnull 15, 3) := by decide +kernel
theorem dX1_halve_4 : decode cX1_halve 4 = .ok (.iload_n 1, 1) := by decide +kernel
theorem dX1_halve_5 : decode cX1_halve 5 = .ok (.iload_n 2, 1) := by decide +kernel
theorem dX1_halve_6 : decode cX1_halve 6 = .ok (.if_icmp .gt 10, 3) := by decide +kernel
theorem dX1_halve_9 : decode cX1_halve 9 = .ok (.iload 5, 2) := by decide +kernel
theorem dX1_halve_11 : decode cX1_halve 11 = .ok (.bipush 10, 2) := by decide +kernel
theorem dX1_halve_13 : decode cX1_halve 13 = .ok (.if_icmp .le 4, 3) := by decide +kernel
theorem dX1_halve_16 : decode cX1_halve 16 = .ok (.return_, 1) := by decide +kernel
theorem dX1_halve_17 : decode cX1_halve 17 = .ok (.iload_n 1, 1) := by decide +kernel
theorem dX1_halve_18 : decode cX1_halve 18 = .ok (.iload_n 2, 1) := by decide +kernel
theorem dX1_halve_19 : decode cX1_halve 19 = .ok (.iadd, 1) := by decide +kernel
theorem dX1_halve_20 : decode cX1_halve 20 = .ok (.iconst 2, 1) := by decide +kernel
theorem dX1_halve_21 : decode cX1_halve 21 = .ok (.idiv, 1) := by decide +kernel
theorem dX1_halve_22 : decode cX1_halve 22 = .ok (.istore 6, 2) := by decide +kernel
theorem dX1_halve_24 : decode cX1_halve 24 = .ok (.aload_n 0, 1) := by decide +kernel
theorem dX1_halve_25 : decode cX1_halve 25 = .ok (.iload 6, 2) := by decide +kernel
theorem dX1_halve_27 : decode cX1_halve 27 = .ok (.iconst 0, 1) := by decide +kernel
theorem dX1_halve_28 : decode cX1_halve 28 = .ok (.iload_n 3, 1) := by decide +kernel
theorem dX1_halve_29 : decode cX1_halve 29 = .ok (.iload 4, 2) := by decide +kernel
theorem dX1_halve_31 : decode cX1_halve 31 = .ok (.invokevirtual 76, 3) := by decide +kernel
theorem dX1_halve_34 : decode cX1_halve 34 = .ok (.istore 7, 2) := by decide +kernel
theorem dX1_halve_36 : decode cX1_halve 36 = .ok (.aload_n 0, 1) := by decide +kernel
theorem dX1_halve_37 : decode cX1_halve 37 = .ok (.iload 6, 2) := by decide +kernel
theorem dX1_halve_39 : decode cX1_halve 39 = .ok (.iload 7, 2) := by decide +kernel
theorem dX1_halve_41 : decode cX1_halve 41 = .ok (.invokevirtual 80, 3) := by decide +kernel
theorem dX1_halve_44 : decode cX1_halve 44 = .ok (.aload_n 0, 1) := by decide +kernel
theorem dX1_halve_45 : decode cX1_halve 45 = .ok (.iload_n 1, 1) := by decide +kernel
theorem dX1_halve_46 : decode cX1_halve 46 = .ok (.iload 6, 2) := by decide +kernel
theorem dX1_halve_48 : decode cX1_halve 48 = .ok (.iconst 1, 1) := by decide +kernel
theorem dX1_halve_49 : decode cX1_halve 49 = .ok (.isub, 1) := by decide +kernel
theorem dX1_halve_50 : decode cX1_halve 50 = .ok (.iload_n 3, 1) := by decide +kernel
theorem dX1_halve_51 : decode cX1_halve 51 = .ok (.iload 7, 2) := by decide +kernel
theorem dX1_halve_53 : decode cX1_halve 53 = .ok (.iload 5, 2) := by decide +kernel
theorem dX1_halve_55 : decode cX1_halve 55 = .ok (.iconst 1, 1) := by decide +kernel
theorem dX1_halve_56 : decode cX1_halve 56 = .ok (.iadd, 1) := by decide +kernel
theorem dX1_halve_57 : decode cX1_halve 57 = .ok (.invokestatic 46, 3) := by decide +kernel
theorem dX1_halve_60 : decode cX1_halve 60 = .ok (.aload_n 0, 1) := by decide +kernel
theorem dX1_halve_61 : decode cX1_halve 61 = .ok (.iload 6, 2) := by decide +kernel
theorem dX1_halve_63 : decode cX1_halve 63 = .ok (.iconst 1, 1) := by decide +kernel
theorem dX1_halve_64 : decode cX1_halve 64 = .ok (.iadd, 1) := by decide +kernel
theorem dX1_halve_65 : decode cX1_halve 65 = .ok (.iload_n 2, 1) := by decide +kernel
theorem dX1_halve_66 : decode cX1_halve 66 = .ok (.iload 7, 2) := by decide +kernel
theorem dX1_halve_68 : decode cX1_halve 68 = .ok (.iload 4, 2) := by decide +kernel
theorem dX1_halve_70 : decode cX1_halve 70 = .ok (.iload 5, 2) := by decide +kernel
theorem dX1_halve_72 : decode cX1_halve 72 = .ok (.iconst 1, 1) := by decide +kernel
theorem dX1_halve_73 : decode cX1_halve 73 = .ok (.iadd, 1) := by decide +kernel
theorem dX1_halve_74 : decode cX1_halve 74 = .ok (.invokestatic 46, 3) := by decide +kernel
theorem dX1_halve_77 : decode cX1_halve 77 = .ok (.return_, 1) := by decide +kernel
theorem dX1_rowsAt_0 : decode cX1_rowsAt 0 = .ok (.aload_n 0, 1) := by decide +kernel
theorem dX1_rowsAt_1 : decode cX1_rowsAt 1 = .ok (.getfield 31, 3) := by decide +kernel
theorem dX1_rowsAt_4 : decode cX1_rowsAt 4 = .ok (.getfield 38, 3) := by decide +kernel
theorem dX1_rowsAt_7 : decode cX1_rowsAt 7 = .ok (.iload_n 1, 1) := by decide +kernel
theorem dX1_rowsAt_8 : decode cX1_rowsAt 8 = .ok (.ishr, 1) := by decide +kernel
theorem dX1_rowsAt_9 : decode cX1_rowsAt 9 = .ok (.ireturn, 1) := by decide +kernel
theorem dX1_rowAt_0 : decode cX1_rowAt 0 = .ok (.iload_n 2, 1) := by decide +kernel
theorem dX1_rowAt_1 : decode cX1_rowAt 1 = .ok (.iconst 1, 1) := by decide +kernel
theorem dX1_rowAt_2 : decode cX1_rowAt 2 = .ok (.iadd, 1) := by decide +kernel
theorem dX1_rowAt_3 : decode cX1_rowAt 3 = .ok (.iload_n 1, 1) := by decide +kernel
theorem dX1_rowAt_4 : decode cX1_rowAt 4 = .ok (.ishl, 1) := by decide +kernel
theorem dX1_rowAt_5 : decode cX1_rowAt 5 = .ok (.iconst 1, 1) := by decide +kernel
theorem dX1_rowAt_6 : decode cX1_rowAt 6 = .ok (.isub, 1) := by decide +kernel
theorem dX1_rowAt_7 : decode cX1_rowAt 7 = .ok (.ireturn, 1) := by decide +kernel
theorem dX1_columnLeft_0 : decode cX1_columnLeft 0 = .ok (.aload_n 0, 1) := by decide +kernel
theorem dX1_columnLeft_1 : decode cX1_columnLeft 1 = .ok (.getfield 18, 3) := by decide +kernel
theorem dX1_columnLeft_4 : decode cX1_columnLeft 4 = .ok (.iload_n 1, 1) := by decide +kernel
theorem dX1_columnLeft_5 : decode cX1_columnLeft 5 = .ok (.bipush 10, 2) := by decide +kernel
theorem dX1_columnLeft_7 : decode cX1_columnLeft 7 = .ok (.imul, 1) := by decide +kernel
theorem dX1_columnLeft_8 : decode cX1_columnLeft 8 = .ok (.iload_n 2, 1) := by decide +kernel
theorem dX1_columnLeft_9 : decode cX1_columnLeft 9 = .ok (.iadd, 1) := by decide +kernel
theorem dX1_columnLeft_10 : decode cX1_columnLeft 10 = .ok (.invokestatic 64, 3) := by decide +kernel
theorem dX1_columnLeft_13 : decode cX1_columnLeft 13 = .ok (.ireturn, 1) := by decide +kernel
theorem dX1_pileColumns_0 : decode cX1_pileColumns 0 = .ok (.aload_n 0, 1) := by decide +kernel
theorem dX1_pileColumns_1 : decode cX1_pileColumns 1 = .ok (.iload_n 1, 1) := by decide +kernel
theorem dX1_pileColumns_2 : decode cX1_pileColumns 2 = .ok (.invokevirtual 84, 3) := by decide +kernel
theorem dX1_pileColumns_5 : decode cX1_pileColumns 5 = .ok (.istore_n 2, 1) := by decide +kernel
theorem dX1_pileColumns_6 : decode cX1_pileColumns 6 = .ok (.iload_n 2, 1) := by decide +kernel
theorem dX1_pileColumns_7 : decode cX1_pileColumns 7 = .ok (.ifCond .ne 7, 3) := by decide +kernel
theorem dX1_pileColumns_10 : decode cX1_pileColumns 10 = .ok (.iconst 0, 1) := by decide +kernel
theorem dX1_pileColumns_11 : decode cX1_pileColumns 11 = .ok (.goto 11, 3) := by decide +kernel
theorem dX1_pileColumns_14 : decode cX1_pileColumns 14 = .ok (.aload_n 0, 1) := by decide +kernel
theorem dX1_pileColumns_15 : decode cX1_pileColumns 15 = .ok (.getfield 21, 3) := by decide +kernel
theorem dX1_pileColumns_18 : decode cX1_pileColumns 18 = .ok (.iload_n 1, 1) := by decide +kernel
theorem dX1_pileColumns_19 : decode cX1_pileColumns 19 = .ok (.invokestatic 64, 3) := by decide +kernel
theorem dX1_pileColumns_22 : decode cX1_pileColumns 22 = .ok (.istore_n 3, 1) := by decide +kernel
theorem dX1_pileColumns_23 : decode cX1_pileColumns 23 = .ok (.iconst 0, 1) := by decide +kernel
theorem dX1_pileColumns_24 : decode cX1_pileColumns 24 = .ok (.istore 4, 2) := by decide +kernel
theorem dX1_pileColumns_26 : decode cX1_pileColumns 26 = .ok (.iconst 0, 1) := by decide +kernel
theorem dX1_pileColumns_27 : decode cX1_pileColumns 27 = .ok (.istore 5, 2) := by decide +kernel
theorem dX1_pileColumns_29 : decode cX1_pileColumns 29 = .ok (.iload 5, 2) := by decide +kernel
theorem dX1_pileColumns_31 : decode cX1_pileColumns 31 = .ok (.iload_n 3, 1) := by decide +kernel
theorem dX1_pileColumns_32 : decode cX1_pileColumns 32 = .ok (.if_icmp .ge 56, 3) := by decide +kernel
theorem dX1_pileColumns_35 : decode cX1_pileColumns 35 = .ok (.aload_n 0, 1) := by decide +kernel
theorem dX1_pileColumns_36 : decode cX1_pileColumns 36 = .ok (.iload_n 1, 1) := by decide +kernel
theorem dX1_pileColumns_37 : decode cX1_pileColumns 37 = .ok (.iload 5, 2) := by decide +kernel
theorem dX1_pileColumns_39 : decode cX1_pileColumns 39 = .ok (.invokevirtual 87, 3) := by decide +kernel
theorem dX1_pileColumns_42 : decode cX1_pileColumns 42 = .ok (.istore 6, 2) := by decide +kernel
theorem dX1_pileColumns_44 : decode cX1_pileColumns 44 = .ok (.aload_n 0, 1) := by decide +kernel
theorem dX1_pileColumns_45 : decode cX1_pileColumns 45 = .ok (.iload_n 1, 1) := by decide +kernel
theorem dX1_pileColumns_46 : decode cX1_pileColumns 46 = .ok (.iload 4, 2) := by decide +kernel
theorem dX1_pileColumns_48 : decode cX1_pileColumns 48 = .ok (.iload 6, 2) := by decide +kernel
theorem dX1_pileColumns_50 : decode cX1_pileColumns 50 = .ok (.invokevirtual 90, 3) := by decide +kernel
theorem dX1_pileColumns_53 : decode cX1_pileColumns 53 = .ok (.istore 4, 2) := by decide +kernel
theorem dX1_pileColumns_55 : decode cX1_pileColumns 55 = .ok (.iload 4, 2) := by decide +kernel
theorem dX1_pileColumns_57 : decode cX1_pileColumns 57 = .ok (.iload_n 2, 1) := by decide +kernel
theorem dX1_pileColumns_58 : decode cX1_pileColumns 58 = .ok (.if_icmp .ge 24, 3) := by decide +kernel
theorem dX1_pileColumns_61 : decode cX1_pileColumns 61 = .ok (.aload_n 0, 1) := by decide +kernel
theorem dX1_pileColumns_62 : decode cX1_pileColumns 62 = .ok (.getfield 18, 3) := by decide +kernel
theorem dX1_pileColumns_65 : decode cX1_pileColumns 65 = .ok (.iload_n 1, 1) := by decide +kernel
theorem dX1_pileColumns_66 : decode cX1_pileColumns 66 = .ok (.iconst 1, 1) := by decide +kernel
theorem dX1_pileColumns_67 : decode cX1_pileColumns 67 = .ok (.iadd, 1) := by decide +kernel
theorem dX1_pileColumns_68 : decode cX1_pileColumns 68 = .ok (.bipush 10, 2) := by decide +kernel
theorem dX1_pileColumns_70 : decode cX1_pileColumns 70 = .ok (.imul, 1) := by decide +kernel
theorem dX1_pileColumns_71 : decode cX1_pileColumns 71 = .ok (.iload 4, 2) := by decide +kernel
theorem dX1_pileColumns_73 : decode cX1_pileColumns 73 = .ok (.iadd, 1) := by decide +kernel
theorem dX1_pileColumns_74 : decode cX1_pileColumns 74 = .ok (.iload 6, 2) := by decide +kernel
theorem dX1_pileColumns_76 : decode cX1_pileColumns 76 = .ok (.invokestatic 60, 3) := by decide +kernel
theorem dX1_pileColumns_79 : decode cX1_pileColumns 79 = .ok (.iinc 4 1, 3) := by decide +kernel
theorem dX1_pileColumns_82 : decode cX1_pileColumns 82 = .ok (.iinc 5 1, 3) := by decide +kernel
theorem dX1_pileColumns_85 : decode cX1_pileColumns 85 = .ok (.goto (-56), 3) := by decide +kernel
theorem dX1_pileColumns_88 : decode cX1_pileColumns 88 = .ok (.aload_n 0, 1) := by decide +kernel
theorem dX1_pileColumns_89 : decode cX1_pileColumns 89 = .ok (.getfield 21, 3) := by decide +kernel
theorem dX1_pileColumns_92 : decode cX1_pileColumns 92 = .ok (.iload_n 1, 1) := by decide +kernel
theorem dX1_pileColumns_93 : decode cX1_pileColumns 93 = .ok (.iconst 1, 1) := by decide +kernel
theorem dX1_pileColumns_94 : decode cX1_pileColumns 94 = .ok (.iadd, 1) := by decide +kernel
theorem dX1_pileColumns_95 : decode cX1_pileColumns 95 = .ok (.iload 4, 2) := by decide +kernel
theorem dX1_pileColumns_97 : decode cX1_pileColumns 97 = .ok (.invokestatic 60, 3) := by decide +kernel
theorem dX1_pileColumns_100 : decode cX1_pileColumns 100 = .ok (.return_, 1) := by decide +kernel
theorem dX1_heightAfterThrowing_0 : decode cX1_heightAfterThrowing 0 = .ok (.iload_n 2, 1) := by decide +kernel
theorem dX1_heightAfterThrowing_1 : decode cX1_heightAfterThrowing 1 = .ok (.istore 4, 2) := by decide +kernel
theorem dX1_heightAfterThrowing_3 : decode cX1_heightAfterThrowing 3 = .ok (.iload 4, 2) := by decide +kernel
theorem dX1_heightAfterThrowing_5 : decode cX1_heightAfterThrowing 5 = .ok (.ifCond .le 58, 3) := by decide +kernel
theorem dX1_heightAfterThrowing_8 : decode cX1_heightAfterThrowing 8 = .ok (.aload_n 0, 1) := by decide +kernel
theorem dX1_heightAfterThrowing_9 : decode cX1_heightAfterThrowing 9 = .ok (.iload_n 1, 1) := by decide +kernel
theorem dX1_heightAfterThrowing_10 : decode cX1_heightAfterThrowing 10 = .ok (.iload 4, 2) := by decide +kernel
theorem dX1_heightAfterThrowing_12 : decode cX1_heightAfterThrowing 12 = .ok (.iconst 1, 1) := by decide +kernel
theorem dX1_heightAfterThrowing_13 : decode cX1_heightAfterThrowing 13 = .ok (.isub, 1) := by decide +kernel
theorem dX1_heightAfterThrowing_14 : decode cX1_heightAfterThrowing 14 = .ok (.invokevirtual 94, 3) := by decide +kernel
theorem dX1_heightAfterThrowing_17 : decode cX1_heightAfterThrowing 17 = .ok (.istore 5, 2) := by decide +kernel
theorem dX1_heightAfterThrowing_19 : decode cX1_heightAfterThrowing 19 = .ok (.aload_n 0, 1) := by decide +kernel
theorem dX1_heightAfterThrowing_20 : decode cX1_heightAfterThrowing 20 = .ok (.iload 5, 2) := by decide +kernel
theorem dX1_heightAfterThrowing_22 : decode cX1_heightAfterThrowing 22 = .ok (.aload_n 0, 1) := by decide +kernel
theorem dX1_heightAfterThrowing_23 : decode cX1_heightAfterThrowing 23 = .ok (.iload_n 1, 1) := by decide +kernel
theorem dX1_heightAfterThrowing_24 : decode cX1_heightAfterThrowing 24 = .ok (.iconst 1, 1) := by decide +kernel
theorem dX1_heightAfterThrowing_25 : decode cX1_heightAfterThrowing 25 = .ok (.iadd, 1) := by decide +kernel
theorem dX1_heightAfterThrowing_26 : decode cX1_heightAfterThrowing 26 = .ok (.iload 4, 2) := by decide +kernel
theorem dX1_heightAfterThrowing_28 : decode cX1_heightAfterThrowing 28 = .ok (.iconst 1, 1) := by decide +kernel
theorem dX1_heightAfterThrowing_29 : decode cX1_heightAfterThrowing 29 = .ok (.isub, 1) := by decide +kernel
theorem dX1_heightAfterThrowing_30 : decode cX1_heightAfterThrowing 30 = .ok (.invokevirtual 87, 3) := by decide +kernel
theorem dX1_heightAfterThrowing_33 : decode cX1_heightAfterThrowing 33 = .ok (.invokevirtual 97, 3) := by decide +kernel
theorem dX1_heightAfterThrowing_36 : decode cX1_heightAfterThrowing 36 = .ok (.istore 6, 2) := by decide +kernel
theorem dX1_heightAfterThrowing_38 : decode cX1_heightAfterThrowing 38 = .ok (.aload_n 0, 1) := by decide +kernel
theorem dX1_heightAfterThrowing_39 : decode cX1_heightAfterThrowing 39 = .ok (.iload 5, 2) := by decide +kernel
theorem dX1_heightAfterThrowing_41 : decode cX1_heightAfterThrowing 41 = .ok (.iload_n 3, 1) := by decide +kernel
theorem dX1_heightAfterThrowing_42 : decode cX1_heightAfterThrowing 42 = .ok (.invokevirtual 97, 3) := by decide +kernel
theorem dX1_heightAfterThrowing_45 : decode cX1_heightAfterThrowing 45 = .ok (.istore 7, 2) := by decide +kernel
theorem dX1_heightAfterThrowing_47 : decode cX1_heightAfterThrowing 47 = .ok (.iload 6, 2) := by decide +kernel
theorem dX1_heightAfterThrowing_49 : decode cX1_heightAfterThrowing 49 = .ok (.iload 7, 2) := by decide +kernel
theorem dX1_heightAfterThrowing_51 : decode cX1_heightAfterThrowing 51 = .ok (.if_icmp .gt 6, 3) := by decide +kernel
theorem dX1_heightAfterThrowing_54 : decode cX1_heightAfterThrowing 54 = .ok (.iload 4, 2) := by decide +kernel
theorem dX1_heightAfterThrowing_56 : decode cX1_heightAfterThrowing 56 = .ok (.ireturn, 1) := by decide +kernel
theorem dX1_heightAfterThrowing_57 : decode cX1_heightAfterThrowing 57 = .ok (.iinc 4 (-1), 3) := by decide +kernel
theorem dX1_heightAfterThrowing_60 : decode cX1_heightAfterThrowing 60 = .ok (.goto (-57), 3) := by decide +kernel
theorem dX1_heightAfterThrowing_63 : decode cX1_heightAfterThrowing 63 = .ok (.iconst 0, 1) := by decide +kernel
theorem dX1_heightAfterThrowing_64 : decode cX1_heightAfterThrowing 64 = .ok (.ireturn, 1) := by decide +kernel
theorem dX1_fillBetween_0 : decode cX1_fillBetween 0 = .ok (.aload_n 0, 1) := by decide +kernel
theorem dX1_fillBetween_1 : decode cX1_fillBetween 1 = .ok (.iload_n 1, 1) := by decide +kernel
theorem dX1_fillBetween_2 : decode cX1_fillBetween 2 = .ok (.invokevirtual 84, 3) := by decide +kernel
theorem dX1_fillBetween_5 : decode cX1_fillBetween 5 = .ok (.istore_n 2, 1) := by decide +kernel
theorem dX1_fillBetween_6 : decode cX1_fillBetween 6 = .ok (.iconst 0, 1) := by decide +kernel
theorem dX1_fillBetween_7 : decode cX1_fillBetween 7 = .ok (.istore_n 3, 1) := by decide +kernel
theorem dX1_fillBetween_8 : decode cX1_fillBetween 8 = .ok (.iload_n 3, 1) := by decide +kernel
theorem dX1_fillBetween_9 : decode cX1_fillBetween 9 = .ok (.iload_n 2, 1) := by decide +kernel
theorem dX1_fillBetween_10 : decode cX1_fillBetween 10 = .ok (.if_icmp .ge 99, 3) := by decide +kernel
theorem dX1_fillBetween_13 : decode cX1_fillBetween 13 = .ok (.aload_n 0, 1) := by decide +kernel
theorem dX1_fillBetween_14 : decode cX1_fillBetween 14 = .ok (.iload_n 1, 1) := by decide +kernel
theorem dX1_fillBetween_15 : decode cX1_fillBetween 15 = .ok (.iload_n 3, 1) := by decide +kernel
theorem dX1_fillBetween_16 : decode cX1_fillBetween 16 = .ok (.invokevirtual 94, 3) := by decide +kernel
theorem dX1_fillBetween_19 : decode cX1_fillBetween 19 = .ok (.istore 4, 2) := by decide +kernel
theorem dX1_fillBetween_21 : decode cX1_fillBetween 21 = .ok (.iload_n 3, 1) := by decide +kernel
theorem dX1_fillBetween_22 : decode cX1_fillBetween 22 = .ok (.ifCond .ne 7, 3) := by decide +kernel
theorem dX1_fillBetween_25 : decode cX1_fillBetween 25 = .ok (.iconst 0, 1) := by decide +kernel
theorem dX1_fillBetween_26 : decode cX1_fillBetween 26 = .ok (.goto 19, 3) := by decide +kernel
theorem dX1_fillBetween_29 : decode cX1_fillBetween 29 = .ok (.aload_n 0, 1) := by decide +kernel
theorem dX1_fillBetween_30 : decode cX1_fillBetween 30 = .ok (.aload_n 0, 1) := by decide +kernel
theorem dX1_fillBetween_31 : decode cX1_fillBetween 31 = .ok (.getfield 24, 3) := by decide +kernel
theorem dX1_fillBetween_34 : decode cX1_fillBetween 34 = .ok (.aload_n 0, 1) := by decide +kernel
theorem dX1_fillBetween_35 : decode cX1_fillBetween 35 = .ok (.iload_n 1, 1) := by decide +kernel
theorem dX1_fillBetween_36 : decode cX1_fillBetween 36 = .ok (.iload_n 3, 1) := by decide +kernel
theorem dX1_fillBetween_37 : decode cX1_fillBetween 37 = .ok (.iconst 1, 1) := by decide +kernel
theorem dX1_fillBetween_38 : decode cX1_fillBetween 38 = .ok (.isub, 1) := by decide +kernel
theorem dX1_fillBetween_39 : decode cX1_fillBetween 39 = .ok (.invokevirtual 94, 3) := by decide +kernel
theorem dX1_fillBetween_42 : decode cX1_fillBetween 42 = .ok (.invokevirtual 68, 3) := by decide +kernel
theorem dX1_fillBetween_45 : decode cX1_fillBetween 45 = .ok (.istore 5, 2) := by decide +kernel
theorem dX1_fillBetween_47 : decode cX1_fillBetween 47 = .ok (.iload_n 3, 1) := by decide +kernel
theorem dX1_fillBetween_48 : decode cX1_fillBetween 48 = .ok (.iload_n 2, 1) := by decide +kernel
theorem dX1_fillBetween_49 : decode cX1_fillBetween 49 = .ok (.iconst 1, 1) := by decide +kernel
theorem dX1_fillBetween_50 : decode cX1_fillBetween 50 = .ok (.isub, 1) := by decide +kernel
theorem dX1_fillBetween_51 : decode cX1_fillBetween 51 = .ok (.if_icmp .ne 15, 3) := by decide +kernel
theorem dX1_fillBetween_54 : decode cX1_fillBetween 54 = .ok (.aload_n 0, 1) := by decide +kernel
theorem dX1_fillBetween_55 : decode cX1_fillBetween 55 = .ok (.getfield 31, 3) := by decide +kernel
theorem dX1_fillBetween_58 : decode cX1_fillBetween 58 = .ok (.getfield 43, 3) := by decide +kernel
theorem dX1_fillBetween_61 : decode cX1_fillBetween 61 = .ok (.iconst 1, 1) := by decide +kernel
theorem dX1_fillBetween_62 : decode cX1_fillBetween 62 = .ok (.isub, 1) := by decide +kernel
theorem dX1_fillBetween_63 : decode cX1_fillBetween 63 = .ok (.goto 19, 3) := by decide +kernel
theorem dX1_fillBetween_66 : decode cX1_fillBetween 66 = .ok (.aload_n 0, 1) := by decide +kernel
theorem dX1_fillBetween_67 : decode cX1_fillBetween 67 = .ok (.aload_n 0, 1) := by decide +kernel
theorem dX1_fillBetween_68 : decode cX1_fillBetween 68 = .ok (.getfield 24, 3) := by decide +kernel
theorem dX1_fillBetween_71 : decode cX1_fillBetween 71 = .ok (.aload_n 0, 1) := by decide +kernel
theorem dX1_fillBetween_72 : decode cX1_fillBetween 72 = .ok (.iload_n 1, 1) := by decide +kernel
theorem dX1_fillBetween_73 : decode cX1_fillBetween 73 = .ok (.iload_n 3, 1) := by decide +kernel
theorem dX1_fillBetween_74 : decode cX1_fillBetween 74 = .ok (.iconst 1, 1) := by decide +kernel
theorem dX1_fillBetween_75 : decode cX1_fillBetween 75 = .ok (.iadd, 1) := by decide +kernel
theorem dX1_fillBetween_76 : decode cX1_fillBetween 76 = .ok (.invokevirtual 94, 3) := by decide +kernel
theorem dX1_fillBetween_79 : decode cX1_fillBetween 79 = .ok (.invokevirtual 68, 3) := by decide +kernel
theorem dX1_fillBetween_82 : decode cX1_fillBetween 82 = .ok (.istore 6, 2) := by decide +kernel
theorem dX1_fillBetween_84 : decode cX1_fillBetween 84 = .ok (.aload_n 0, 1) := by decide +kernel
theorem dX1_fillBetween_85 : decode cX1_fillBetween 85 = .ok (.iload 4, 2) := by decide +kernel
theorem dX1_fillBetween_87 : decode cX1_fillBetween 87 = .ok (.aload_n 0, 1) := by decide +kernel
theorem dX1_fillBetween_88 : decode cX1_fillBetween 88 = .ok (.iload 4, 2) := by decide +kernel
theorem dX1_fillBetween_90 : decode cX1_fillBetween 90 = .ok (.iload_n 1, 1) := by decide +kernel
theorem dX1_fillBetween_91 : decode cX1_fillBetween 91 = .ok (.iconst 1, 1) := by decide +kernel
theorem dX1_fillBetween_92 : decode cX1_fillBetween 92 = .ok (.iadd, 1) := by decide +kernel
theorem dX1_fillBetween_93 : decode cX1_fillBetween 93 = .ok (.iload 5, 2) := by decide +kernel
theorem dX1_fillBetween_95 : decode cX1_fillBetween 95 = .ok (.iload 6, 2) := by decide +kernel
theorem dX1_fillBetween_97 : decode cX1_fillBetween 97 = .ok (.invokevirtual 76, 3) := by decide +kernel
theorem dX1_fillBetween_100 : decode cX1_fillBetween 100 = .ok (.invokevirtual 80, 3) := by decide +kernel
theorem dX1_fillBetween_103 : decode cX1_fillBetween 103 = .ok (.iinc 3 2, 3) := by decide +kernel
theorem dX1_fillBetween_106 : decode cX1_fillBetween 106 = .ok (.goto (-98), 3) := by decide +kernel
theorem dX1_fillBetween_109 : decode cX1_fillBetween 109 = .ok (.return_, 1) := by decide +kernel
theorem dX1_leftmostLeast_0 : decode cX1_leftmostLeast 0 = .ok (.iconst (-1), 1) := by decide +kernel
theorem dX1_leftmostLeast_1 : decode cX1_leftmostLeast 1 = .ok (.istore 5, 2) := by decide +kernel
theorem dX1_leftmostLeast_3 : decode cX1_leftmostLeast 3 = .ok (.iconst 0, 1) := by decide +kernel
theorem dX1_leftmostLeast_4 : decode cX1_leftmostLeast 4 = .ok (.istore 6, 2) := by decide +kernel
theorem dX1_leftmostLeast_6 : decode cX1_leftmostLeast 6 = .ok (.aload_n 0, 1) := by decide +kernel
theorem dX1_leftmostLeast_7 : decode cX1_leftmostLeast 7 = .ok (.getfield 21, 3) := by decide +kernel
theorem dX1_leftmostLeast_10 : decode cX1_leftmostLeast 10 = .ok (.iload_n 2, 1) := by decide +kernel
theorem dX1_leftmostLeast_11 : decode cX1_leftmostLeast 11 = .ok (.invokestatic 64, 3) := by decide +kernel
theorem dX1_leftmostLeast_14 : decode cX1_leftmostLeast 14 = .ok (.istore 7, 2) := by decide +kernel
theorem dX1_leftmostLeast_16 : decode cX1_leftmostLeast 16 = .ok (.iconst 0, 1) := by decide +kernel
theorem dX1_leftmostLeast_17 : decode cX1_leftmostLeast 17 = .ok (.istore 8, 2) := by decide +kernel
theorem dX1_leftmostLeast_19 : decode cX1_leftmostLeast 19 = .ok (.iload 8, 2) := by decide +kernel
theorem dX1_leftmostLeast_21 : decode cX1_leftmostLeast 21 = .ok (.iload 7, 2) := by decide +kernel
theorem dX1_leftmostLeast_23 : decode cX1_leftmostLeast 23 = .ok (.if_icmp .ge 59, 3) := by decide +kernel
theorem dX1_leftmostLeast_26 : decode cX1_leftmostLeast 26 = .ok (.aload_n 0, 1) := by decide +kernel
theorem dX1_leftmostLeast_27 : decode cX1_leftmostLeast 27 = .ok (.iload_n 2, 1) := by decide +kernel
theorem dX1_leftmostLeast_28 : decode cX1_leftmostLeast 28 = .ok (.iload 8, 2) := by decide +kernel
theorem dX1_leftmostLeast_30 : decode cX1_leftmostLeast 30 = .ok (.invokevirtual 87, 3) := by decide +kernel
theorem dX1_leftmostLeast_33 : decode cX1_leftmostLeast 33 = .ok (.istore 9, 2) := by decide +kernel
theorem dX1_leftmostLeast_35 : decode cX1_leftmostLeast 35 = .ok (.iload 9, 2) := by decide +kernel
theorem dX1_leftmostLeast_37 : decode cX1_leftmostLeast 37 = .ok (.iload_n 3, 1) := by decide +kernel
theorem dX1_leftmostLeast_38 : decode cX1_leftmostLeast 38 = .ok (.iload 4, 2) := by decide +kernel
theorem dX1_leftmostLeast_40 : decode cX1_leftmostLeast 40 = .ok (.invokestatic 100, 3) := by decide +kernel
theorem dX1_leftmostLeast_43 : decode cX1_leftmostLeast 43 = .ok (.ifCond .eq 33, 3) := by decide +kernel
theorem dX1_leftmostLeast_46 : decode cX1_leftmostLeast 46 = .ok (.aload_n 0, 1) := by decide +kernel
theorem dX1_leftmostLeast_47 : decode cX1_leftmostLeast 47 = .ok (.iload_n 1, 1) := by decide +kernel
theorem dX1_leftmostLeast_48 : decode cX1_leftmostLeast 48 = .ok (.iload 9, 2) := by decide +kernel
theorem dX1_leftmostLeast_50 : decode cX1_leftmostLeast 50 = .ok (.invokevirtual 97, 3) := by decide +kernel
theorem dX1_leftmostLeast_53 : decode cX1_leftmostLeast 53 = .ok (.istore 10, 2) := by decide +kernel
theorem dX1_leftmostLeast_55 : decode cX1_leftmostLeast 55 = .ok (.iload 5, 2) := by decide +kernel
theorem dX1_leftmostLeast_57 : decode cX1_leftmostLeast 57 = .ok (.iconst (-1), 1) := by decide +kernel
theorem dX1_leftmostLeast_58 : decode cX1_leftmostLeast 58 = .ok (.if_icmp .eq 10, 3) := by decide +kernel
theorem dX1_leftmostLeast_61 : decode cX1_leftmostLeast 61 = .ok (.iload 10, 2) := by decide +kernel
theorem dX1_leftmostLeast_63 : decode cX1_leftmostLeast 63 = .ok (.iload 6, 2) := by decide +kernel
theorem dX1_leftmostLeast_65 : decode cX1_leftmostLeast 65 = .ok (.if_icmp .ge 11, 3) := by decide +kernel
theorem dX1_leftmostLeast_68 : decode cX1_leftmostLeast 68 = .ok (.iload 9, 2) := by decide +kernel
theorem dX1_leftmostLeast_70 : decode cX1_leftmostLeast 70 = .ok (.istore 5, 2) := by decide +kernel
theorem dX1_leftmostLeast_72 : decode cX1_leftmostLeast 72 = .ok (.iload 10, 2) := by decide +kernel
theorem dX1_leftmostLeast_74 : decode cX1_leftmostLeast 74 = .ok (.istore 6, 2) := by decide +kernel
theorem dX1_leftmostLeast_76 : decode cX1_leftmostLeast 76 = .ok (.iinc 8 1, 3) := by decide +kernel
theorem dX1_leftmostLeast_79 : decode cX1_leftmostLeast 79 = .ok (.goto (-60), 3) := by decide +kernel
theorem dX1_leftmostLeast_82 : decode cX1_leftmostLeast 82 = .ok (.iload 5, 2) := by decide +kernel
theorem dX1_leftmostLeast_84 : decode cX1_leftmostLeast 84 = .ok (.ireturn, 1) := by decide +kernel
theorem dX1_look_0 : decode cX1_look 0 = .ok (.aload_n 0, 1) := by decide +kernel
theorem dX1_look_1 : decode cX1_look 1 = .ok (.dup, 1) := by decide +kernel
theorem dX1_look_2 : decode cX1_look 2 = .ok (.getfield 28, 3) := by decide +kernel
theorem dX1_look_5 : decode cX1_look 5 = .ok (.iconst 1, 1) := by decide +kernel
theorem dX1_look_6 : decode cX1_look 6 = .ok (.iadd, 1) := by decide +kernel
theorem dX1_look_7 : decode cX1_look 7 = .ok (.putfield 28, 3) := by decide +kernel
theorem dX1_look_10 : decode cX1_look 10 = .ok (.aload_n 0, 1) := by decide +kernel
theorem dX1_look_11 : decode cX1_look 11 = .ok (.getfield 31, 3) := by decide +kernel
theorem dX1_look_14 : decode cX1_look 14 = .ok (.iload_n 1, 1) := by decide +kernel
theorem dX1_look_15 : decode cX1_look 15 = .ok (.iload_n 2, 1) := by decide +kernel
theorem dX1_look_16 : decode cX1_look 16 = .ok (.invokevirtual 104, 3) := by decide +kernel
theorem dX1_look_19 : decode cX1_look 19 = .ok (.ireturn, 1) := by decide +kernel
theorem dX1_setPlace_0 : decode cX1_setPlace 0 = .ok (.aload_n 0, 1) := by decide +kernel
theorem dX1_setPlace_1 : decode cX1_setPlace 1 = .ok (.getfield 9, 3) := by decide +kernel
theorem dX1_setPlace_4 : decode cX1_setPlace 4 = .ok (.aload_n 0, 1) := by decide +kernel
theorem dX1_setPlace_5 : decode cX1_setPlace 5 = .ok (.getfield 24, 3) := by decide +kernel
theorem dX1_setPlace_8 : decode cX1_setPlace 8 = .ok (.bipush 10, 2) := by decide +kernel
theorem dX1_setPlace_10 : decode cX1_setPlace 10 = .ok (.imul, 1) := by decide +kernel
theorem dX1_setPlace_11 : decode cX1_setPlace 11 = .ok (.iload_n 1, 1) := by decide +kernel
theorem dX1_setPlace_12 : decode cX1_setPlace 12 = .ok (.iadd, 1) := by decide +kernel
theorem dX1_setPlace_13 : decode cX1_setPlace 13 = .ok (.iload_n 2, 1) := by decide +kernel
theorem dX1_setPlace_14 : decode cX1_setPlace 14 = .ok (.invokestatic 60, 3) := by decide +kernel
theorem dX1_setPlace_17 : decode cX1_setPlace 17 = .ok (.return_, 1) := by decide +kernel
theorem dX2_init_0 : decode cX2_init 0 = .ok (.aload_n 0, 1) := by decide +kernel
theorem dX2_init_1 : decode cX2_init 1 = .ok (.invokespecial 3, 3) := by decide +kernel
theorem dX2_init_4 : decode cX2_init 4 = .ok (.aload_n 0, 1) := by decide +kernel
theorem dX2_init_5 : decode cX2_init 5 = .ok (.iconst 0, 1) := by decide +kernel
theorem dX2_init_6 : decode cX2_init 6 = .ok (.putfield 9, 3) := by decide +kernel
theorem dX2_init_9 : decode cX2_init 9 = .ok (.aload_n 0, 1) := by decide +kernel
theorem dX2_init_10 : decode cX2_init 10 = .ok (.iconst 0, 1) := by decide +kernel
theorem dX2_init_11 : decode cX2_init 11 = .ok (.putfield 15, 3) := by decide +kernel
theorem dX2_init_14 : decode cX2_init 14 = .ok (.aload_n 0, 1) := by decide +kernel
theorem dX2_init_15 : decode cX2_init 15 = .ok (.bipush 6, 2) := by decide +kernel
theorem dX2_init_17 : decode cX2_init 17 = .ok (.anewarray 18, 3) := by decide +kernel
theorem dX2_init_20 : decode cX2_init 20 = .ok (.putfield 20, 3) := by decide +kernel
theorem dX2_init_23 : decode cX2_init 23 = .ok (.iconst 0, 1) := by decide +kernel
theorem dX2_init_24 : decode cX2_init 24 = .ok (.istore_n 1, 1) := by decide +kernel
theorem dX2_init_25 : decode cX2_init 25 = .ok (.iload_n 1, 1) := by decide +kernel
theorem dX2_init_26 : decode cX2_init 26 = .ok (.aload_n 0, 1) := by decide +kernel
theorem dX2_init_27 : decode cX2_init 27 = .ok (.getfield 20, 3) := by decide +kernel
theorem dX2_init_30 : decode cX2_init 30 = .ok (.arraylength, 1) := by decide +kernel
theorem dX2_init_31 : decode cX2_init 31 = .ok (.if_icmp .ge 22, 3) := by decide +kernel
theorem dX2_init_34 : decode cX2_init 34 = .ok (.aload_n 0, 1) := by decide +kernel
theorem dX2_init_35 : decode cX2_init 35 = .ok (.getfield 20, 3) := by decide +kernel
theorem dX2_init_38 : decode cX2_init 38 = .ok (.iload_n 1, 1) := by decide +kernel
theorem dX2_init_39 : decode cX2_init 39 = .ok (.new 18, 3) := by decide +kernel
theorem dX2_init_42 : decode cX2_init 42 = .ok (.dup, 1) := by decide +kernel
theorem dX2_init_43 : decode cX2_init 43 = .ok (.invokespecial 24, 3) := by decide +kernel
theorem dX2_init_46 : decode cX2_init 46 = .ok (.aastore, 1) := by decide +kernel
theorem dX2_init_47 : decode cX2_init 47 = .ok (.iinc 1 1, 3) := by decide +kernel
theorem dX2_init_50 : decode cX2_init 50 = .ok (.goto (-25), 3) := by decide +kernel
theorem dX2_init_53 : decode cX2_init 53 = .ok (.return_, 1) := by decide +kernel
theorem dX2_save_0 : decode cX2_save 0 = .ok (.aload_n 0, 1) := by decide +kernel
theorem dX2_save_1 : decode cX2_save 1 = .ok (.getfield 9, 3) := by decide +kernel
theorem dX2_save_4 : decode cX2_save 4 = .ok (.bipush 6, 2) := by decide +kernel
theorem dX2_save_6 : decode cX2_save 6 = .ok (.if_icmp .ne 26, 3) := by decide +kernel
theorem dX2_save_9 : decode cX2_save 9 = .ok (.aload_n 0, 1) := by decide +kernel
theorem dX2_save_10 : decode cX2_save 10 = .ok (.aload_n 0, 1) := by decide +kernel
theorem dX2_save_11 : decode cX2_save 11 = .ok (.getfield 15, 3) := by decide +kernel
theorem dX2_save_14 : decode cX2_save 14 = .ok (.iconst 1, 1) := by decide +kernel
theorem dX2_save_15 : decode cX2_save 15 = .ok (.iadd, 1) := by decide +kernel
theorem dX2_save_16 : decode cX2_save 16 = .ok (.bipush 6, 2) := by decide +kernel
theorem dX2_save_18 : decode cX2_save 18 = .ok (.irem, 1) := by decide +kernel
theorem dX2_save_19 : decode cX2_save 19 = .ok (.putfield 15, 3) := by decide +kernel
theorem dX2_save_22 : decode cX2_save 22 = .ok (.aload_n 0, 1) := by decide +kernel
theorem dX2_save_23 : decode cX2_save 23 = .ok (.dup, 1) := by decide +kernel
theorem dX2_save_24 : decode cX2_save 24 = .ok (.getfield 9, 3) := by decide +kernel
theorem dX2_save_27 : decode cX2_save 27 = .ok (.iconst 1, 1) := by decide +kernel
theorem dX2_save_28 : decode cX2_save 28 = .ok (.isub, 1) := by decide +kernel
theorem dX2_save_29 : decode cX2_save 29 = .ok (.putfield 9, 3) := by decide +kernel
theorem dX2_save_32 : decode cX2_save 32 = .ok (.aload_n 0, 1) := by decide +kernel
theorem dX2_save_33 : decode cX2_save 33 = .ok (.aload_n 0, 1) := by decide +kernel
theorem dX2_save_34 : decode cX2_save 34 = .ok (.getfield 9, 3) := by decide +kernel
theorem dX2_save_37 : decode cX2_save 37 = .ok (.invokevirtual 25, 3) := by decide +kernel
theorem dX2_save_40 : decode cX2_save 40 = .ok (.astore_n 2, 1) := by decide +kernel
theorem dX2_save_41 : decode cX2_save 41 = .ok (.aload_n 2, 1) := by decide +kernel
theorem dX2_save_42 : decode cX2_save 42 = .ok (.ifnull 18, 3) := by decide +kernel
theorem dX2_save_45 : decode cX2_save 45 = .ok (.aload_n 2, 1) := by decide +kernel
theorem dX2_save_46 : decode cX2_save 46 = .ok (.aload_n 1, 1) := by decide +kernel
theorem dX2_save_47 : decode cX2_save 47 = .ok (.invokevirtual 29, 3) := by decide +kernel
theorem dX2_save_50 : decode cX2_save 50 = .ok (.aload_n 0, 1) := by decide +kernel
theorem dX2_save_51 : decode cX2_save 51 = .ok (.dup, 1) := by decide +kernel
theorem dX2_save_52 : decode cX2_save 52 = .ok (.getfield 9, 3) := by decide +kernel
theorem dX2_save_55 : decode cX2_save 55 = .ok (.iconst 1, 1) := by decide +kernel
theorem dX2_save_56 : decode cX2_save 56 = .ok (.iadd, 1) := by decide +kernel
theorem dX2_save_57 : decode cX2_save 57 = .ok (.putfield 9, 3) := by decide +kernel
theorem dX2_save_60 : decode cX2_save 60 = .ok (.return_, 1) := by decide +kernel
theorem dX2_latest_0 : decode cX2_latest 0 = .ok (.aload_n 0, 1) := by decide +kernel
theorem dX2_latest_1 : decode cX2_latest 1 = .ok (.aload_n 0, 1) := by decide +kernel
theorem dX2_latest_2 : decode cX2_latest 2 = .ok (.getfield 9, 3) := by decide +kernel
theorem dX2_latest_5 : decode cX2_latest 5 = .ok (.iconst 1, 1) := by decide +kernel
theorem dX2_latest_6 : decode cX2_latest 6 = .ok (.isub, 1) := by decide +kernel
theorem dX2_latest_7 : decode cX2_latest 7 = .ok (.invokevirtual 25, 3) := by decide +kernel
theorem dX2_latest_10 : decode cX2_latest 10 = .ok (.areturn, 1) := by decide +kernel
theorem dX2_stateAt_0 : decode cX2_stateAt 0 = .ok (.aload_n 0, 1) := by decide +kernel
theorem dX2_stateAt_1 : decode cX2_stateAt 1 = .ok (.getfield 15, 3) := by decide +kernel
theorem dX2_stateAt_4 : decode cX2_stateAt 4 = .ok (.iload_n 1, 1) := by decide +kernel
theorem dX2_stateAt_5 : decode cX2_stateAt 5 = .ok (.iadd, 1) := by decide +kernel
theorem dX2_stateAt_6 : decode cX2_stateAt 6 = .ok (.bipush 6, 2) := by decide +kernel
theorem dX2_stateAt_8 : decode cX2_stateAt 8 = .ok (.irem, 1) := by decide +kernel
theorem dX2_stateAt_9 : decode cX2_stateAt 9 = .ok (.istore_n 2, 1) := by decide +kernel
theorem dX2_stateAt_10 : decode cX2_stateAt 10 = .ok (.iload_n 2, 1) := by decide +kernel
theorem dX2_stateAt_11 : decode cX2_stateAt 11 = .ok (.ifCond .lt 12, 3) := by decide +kernel
theorem dX2_stateAt_14 : decode cX2_stateAt 14 = .ok (.iload_n 2, 1) := by decide +kernel
theorem dX2_stateAt_15 : decode cX2_stateAt 15 = .ok (.aload_n 0, 1) := by decide +kernel
theorem dX2_stateAt_16 : decode cX2_stateAt 16 = .ok (.getfield 20, 3) := by decide +kernel
theorem dX2_stateAt_19 : decode cX2_stateAt 19 = .ok (.arraylength, 1) := by decide +kernel
theorem dX2_stateAt_20 : decode cX2_stateAt 20 = .ok (.if_icmp .lt 7, 3) := by decide +kernel
theorem dX2_stateAt_23 : decode cX2_stateAt 23 = .ok (.aconst_null, 1) := by decide +kernel
theorem dX2_stateAt_24 : decode cX2_stateAt 24 = .ok (.goto 9, 3) := by decide +kernel
theorem dX2_stateAt_27 : decode cX2_stateAt 27 = .ok (.aload_n 0, 1) := by decide +kernel
theorem dX2_stateAt_28 : decode cX2_stateAt 28 = .ok (.getfield 20, 3) := by decide +kernel
theorem dX2_stateAt_31 : decode cX2_stateAt 31 = .ok (.iload_n 2, 1) := by decide +kernel
theorem dX2_stateAt_32 : decode cX2_stateAt 32 = .ok (.aaload, 1) := by decide +kernel
theorem dX2_stateAt_33 : decode cX2_stateAt 33 = .ok (.areturn, 1) := by decide +kernel
theorem dX3_init_0 : decode cX3_init 0 = .ok (.aload_n 0, 1) := by decide +kernel
theorem dX3_init_1 : decode cX3_init 1 = .ok (.invokespecial 3, 3) := by decide +kernel
theorem dX3_init_4 : decode cX3_init 4 = .ok (.aload_n 0, 1) := by decide +kernel
theorem dX3_init_5 : decode cX3_init 5 = .ok (.iconst (-1), 1) := by decide +kernel
theorem dX3_init_6 : decode cX3_init 6 = .ok (.putfield 9, 3) := by decide +kernel
theorem dX3_init_9 : decode cX3_init 9 = .ok (.aload_n 0, 1) := by decide +kernel
theorem dX3_init_10 : decode cX3_init 10 = .ok (.iconst (-1), 1) := by decide +kernel
theorem dX3_init_11 : decode cX3_init 11 = .ok (.putfield 15, 3) := by decide +kernel
theorem dX3_init_14 : decode cX3_init 14 = .ok (.aload_n 0, 1) := by decide +kernel
theorem dX3_init_15 : decode cX3_init 15 = .ok (.iconst (-1), 1) := by decide +kernel
theorem dX3_init_16 : decode cX3_init 16 = .ok (.putfield 18, 3) := by decide +kernel
theorem dX3_init_19 : decode cX3_init 19 = .ok (.aload_n 0, 1) := by decide +kernel
theorem dX3_init_20 : decode cX3_init 20 = .ok (.iconst 0, 1) := by decide +kernel
theorem dX3_init_21 : decode cX3_init 21 = .ok (.putfield 21, 3) := by decide +kernel
theorem dX3_init_24 : decode cX3_init 24 = .ok (.aload_n 0, 1) := by decide +kernel
theorem dX3_init_25 : decode cX3_init 25 = .ok (.aload_n 1, 1) := by decide +kernel
theorem dX3_init_26 : decode cX3_init 26 = .ok (.putfield 24, 3) := by decide +kernel
theorem dX3_init_29 : decode cX3_init 29 = .ok (.return_, 1) := by decide +kernel
theorem dX3_isKept_0 : decode cX3_isKept 0 = .ok (.aload_n 0, 1) := by decide +kernel
theorem dX3_isKept_1 : decode cX3_isKept 1 = .ok (.invokevirtual 28, 3) := by decide +kernel
theorem dX3_isKept_4 : decode cX3_isKept 4 = .ok (.aload_n 0, 1) := by decide +kernel
theorem dX3_isKept_5 : decode cX3_isKept 5 = .ok (.getfield 21, 3) := by decide +kernel
theorem dX3_isKept_8 : decode cX3_isKept 8 = .ok (.ifCond .ne 7, 3) := by decide +kernel
theorem dX3_isKept_11 : decode cX3_isKept 11 = .ok (.iconst 1, 1) := by decide +kernel
theorem dX3_isKept_12 : decode cX3_isKept 12 = .ok (.goto 4, 3) := by decide +kernel
theorem dX3_isKept_15 : decode cX3_isKept 15 = .ok (.iconst 0, 1) := by decide +kernel
theorem dX3_isKept_16 : decode cX3_isKept 16 = .ok (.ireturn, 1) := by decide +kernel
theorem dX3_examine_0 : decode cX3_examine 0 = .ok (.aload_n 0, 1) := by decide +kernel
theorem dX3_examine_1 : decode cX3_examine 1 = .ok (.iconst (-1), 1) := by decide +kernel
theorem dX3_examine_2 : decode cX3_examine 2 = .ok (.putfield 9, 3) := by decide +kernel
theorem dX3_examine_5 : decode cX3_examine 5 = .ok (.aload_n 0, 1) := by decide +kernel
theorem dX3_examine_6 : decode cX3_examine 6 = .ok (.iconst (-1), 1) := by decide +kernel
theorem dX3_examine_7 : decode cX3_examine 7 = .ok (.putfield 15, 3) := by decide +kernel
theorem dX3_examine_10 : decode cX3_examine 10 = .ok (.aload_n 0, 1) := by decide +kernel
theorem dX3_examine_11 : decode cX3_examine 11 = .ok (.iconst (-1), 1) := by decide +kernel
theorem dX3_examine_12 : decode cX3_examine 12 = .ok (.putfield 18, 3) := by decide +kernel
theorem dX3_examine_15 : decode cX3_examine 15 = .ok (.aload_n 0, 1) := by decide +kernel
theorem dX3_examine_16 : decode cX3_examine 16 = .ok (.iconst 0, 1) := by decide +kernel
theorem dX3_examine_17 : decode cX3_examine 17 = .ok (.putfield 21, 3) := by decide +kernel
theorem dX3_examine_20 : decode cX3_examine 20 = .ok (.iconst 0, 1) := by decide +kernel
theorem dX3_examine_21 : decode cX3_examine 21 = .ok (.istore_n 1, 1) := by decide +kernel
theorem dX3_examine_22 : decode cX3_examine 22 = .ok (.iload_n 1, 1) := by decide +kernel
theorem dX3_examine_23 : decode cX3_examine 23 = .ok (.aload_n 0, 1) := by decide +kernel
theorem dX3_examine_24 : decode cX3_examine 24 = .ok (.getfield 24, 3) := by decide +kernel
theorem dX3_examine_27 : decode cX3_examine 27 = .ok (.getfield 31, 3) := by decide +kernel
theorem dX3_examine_30 : decode cX3_examine 30 = .ok (.iconst 1, 1) := by decide +kernel
theorem dX3_examine_31 : decode cX3_examine 31 = .ok (.isub, 1) := by decide +kernel
theorem dX3_examine_32 : decode cX3_examine 32 = .ok (.if_icmp .ge 80, 3) := by decide +kernel
theorem dX3_examine_35 : decode cX3_examine 35 = .ok (.iconst 0, 1) := by decide +kernel
theorem dX3_examine_36 : decode cX3_examine 36 = .ok (.istore_n 2, 1) := by decide +kernel
theorem dX3_examine_37 : decode cX3_examine 37 = .ok (.iload_n 2, 1) := by decide +kernel
theorem dX3_examine_38 : decode cX3_examine 38 = .ok (.aload_n 0, 1) := by decide +kernel
theorem dX3_examine_39 : decode cX3_examine 39 = .ok (.getfield 24, 3) := by decide +kernel
theorem dX3_examine_42 : decode cX3_examine 42 = .ok (.getfield 36, 3) := by decide +kernel
theorem dX3_examine_45 : decode cX3_examine 45 = .ok (.iconst 1, 1) := by decide +kernel
theorem dX3_examine_46 : decode cX3_examine 46 = .ok (.isub, 1) := by decide +kernel
theorem dX3_examine_47 : decode cX3_examine 47 = .ok (.if_icmp .ge 59, 3) := by decide +kernel
theorem dX3_examine_50 : decode cX3_examine 50 = .ok (.iload_n 2, 1) := by decide +kernel
theorem dX3_examine_51 : decode cX3_examine 51 = .ok (.iconst 1, 1) := by decide +kernel
theorem dX3_examine_52 : decode cX3_examine 52 = .ok (.iadd, 1) := by decide +kernel
theorem dX3_examine_53 : decode cX3_examine 53 = .ok (.istore_n 3, 1) := by decide +kernel
theorem dX3_examine_54 : decode cX3_examine 54 = .ok (.iload_n 3, 1) := by decide +kernel
theorem dX3_examine_55 : decode cX3_examine 55 = .ok (.aload_n 0, 1) := by decide +kernel
theorem dX3_examine_56 : decode cX3_examine 56 = .ok (.getfield 24, 3) := by decide +kernel
theorem dX3_examine_59 : decode cX3_examine 59 = .ok (.getfield 36, 3) := by decide +kernel
theorem dX3_examine_62 : decode cX3_examine 62 = .ok (.if_icmp .ge 38, 3) := by decide +kernel
theorem dX3_examine_65 : decode cX3_examine 65 = .ok (.aload_n 0, 1) := by decide +kernel
theorem dX3_examine_66 : decode cX3_examine 66 = .ok (.iload_n 1, 1) := by decide +kernel
theorem dX3_examine_67 : decode cX3_examine 67 = .ok (.iload_n 2, 1) := by decide +kernel
theorem dX3_examine_68 : decode cX3_examine 68 = .ok (.iload_n 3, 1) := by decide +kernel
theorem dX3_examine_69 : decode cX3_examine 69 = .ok (.invokevirtual 39, 3) := by decide +kernel
theorem dX3_examine_72 : decode cX3_examine 72 = .ok (.ifCond .eq 22, 3) := by decide +kernel
theorem dX3_examine_75 : decode cX3_examine 75 = .ok (.aload_n 0, 1) := by decide +kernel
theorem dX3_examine_76 : decode cX3_examine 76 = .ok (.iload_n 1, 1) := by decide +kernel
theorem dX3_examine_77 : decode cX3_examine 77 = .ok (.iconst 1, 1) := by decide +kernel
theorem dX3_examine_78 : decode cX3_examine 78 = .ok (.iadd, 1) := by decide +kernel
theorem dX3_examine_79 : decode cX3_examine 79 = .ok (.iload_n 2, 1) := by decide +kernel
theorem dX3_examine_80 : decode cX3_examine 80 = .ok (.iload_n 3, 1) := by decide +kernel
theorem dX3_examine_81 : decode cX3_examine 81 = .ok (.invokevirtual 39, 3) := by decide +kernel
theorem dX3_examine_84 : decode cX3_examine 84 = .ok (.ifCond .ne 10, 3) := by decide +kernel
theorem dX3_examine_87 : decode cX3_examine 87 = .ok (.aload_n 0, 1) := by decide +kernel
theorem dX3_examine_88 : decode cX3_examine 88 = .ok (.iload_n 1, 1) := by decide +kernel
theorem dX3_examine_89 : decode cX3_examine 89 = .ok (.iload_n 2, 1) := by decide +kernel
theorem dX3_examine_90 : decode cX3_examine 90 = .ok (.iload_n 3, 1) := by decide +kernel
theorem dX3_examine_91 : decode cX3_examine 91 = .ok (.invokevirtual 43, 3) := by decide +kernel
theorem dX3_examine_94 : decode cX3_examine 94 = .ok (.iinc 3 1, 3) := by decide +kernel
theorem dX3_examine_97 : decode cX3_examine 97 = .ok (.goto (-43), 3) := by decide +kernel
theorem dX3_examine_100 : decode cX3_examine 100 = .ok (.iinc 2 1, 3) := by decide +kernel
theorem dX3_examine_103 : decode cX3_examine 103 = .ok (.goto (-66), 3) := by decide +kernel
theorem dX3_examine_106 : decode cX3_examine 106 = .ok (.iinc 1 1, 3) := by decide +kernel
theorem dX3_examine_109 : decode cX3_examine 109 = .ok (.goto (-87), 3) := by decide +kernel
theorem dX3_examine_112 : decode cX3_examine 112 = .ok (.return_, 1) := by decide +kernel
theorem dX3_told_0 : decode cX3_told 0 = .ok (.iload_n 1, 1) := by decide +kernel
theorem dX3_told_1 : decode cX3_told 1 = .ok (.tableswitch 42 0 2 #[27, 32, 37], 27) := by decide +kernel
theorem dX3_told_28 : decode cX3_told 28 = .ok (.aload_n 0, 1) := by decide +kernel
theorem dX3_told_29 : decode cX3_told 29 = .ok (.getfield 9, 3) := by decide +kernel
theorem dX3_told_32 : decode cX3_told 32 = .ok (.ireturn, 1) := by decide +kernel
theorem dX3_told_33 : decode cX3_told 33 = .ok (.aload_n 0, 1) := by decide +kernel
theorem dX3_told_34 : decode cX3_told 34 = .ok (.getfield 15, 3) := by decide +kernel
theorem dX3_told_37 : decode cX3_told 37 = .ok (.ireturn, 1) := by decide +kernel
theorem dX3_told_38 : decode cX3_told 38 = .ok (.aload_n 0, 1) := by decide +kernel
theorem dX3_told_39 : decode cX3_told 39 = .ok (.getfield 18, 3) := by decide +kernel
theorem dX3_told_42 : decode cX3_told 42 = .ok (.ireturn, 1) := by decide +kernel
theorem dX3_told_43 : decode cX3_told 43 = .ok (.aload_n 0, 1) := by decide +kernel
theorem dX3_told_44 : decode cX3_told 44 = .ok (.getfield 21, 3) := by decide +kernel
theorem dX3_told_47 : decode cX3_told 47 = .ok (.ireturn, 1) := by decide +kernel
theorem dX3_isGreater_0 : decode cX3_isGreater 0 = .ok (.aload_n 0, 1) := by decide +kernel
theorem dX3_isGreater_1 : decode cX3_isGreater 1 = .ok (.getfield 24, 3) := by decide +kernel
theorem dX3_isGreater_4 : decode cX3_isGreater 4 = .ok (.iload_n 1, 1) := by decide +kernel
theorem dX3_isGreater_5 : decode cX3_isGreater 5 = .ok (.iload_n 2, 1) := by decide +kernel
theorem dX3_isGreater_6 : decode cX3_isGreater 6 = .ok (.invokevirtual 47, 3) := by decide +kernel
theorem dX3_isGreater_9 : decode cX3_isGreater 9 = .ok (.aload_n 0, 1) := by decide +kernel
theorem dX3_isGreater_10 : decode cX3_isGreater 10 = .ok (.getfield 24, 3) := by decide +kernel
theorem dX3_isGreater_13 : decode cX3_isGreater 13 = .ok (.iload_n 1, 1) := by decide +kernel
theorem dX3_isGreater_14 : decode cX3_isGreater 14 = .ok (.iload_n 3, 1) := by decide +kernel
theorem dX3_isGreater_15 : decode cX3_isGreater 15 = .ok (.invokevirtual 47, 3) := by decide +kernel
theorem dX3_isGreater_18 : decode cX3_isGreater 18 = .ok (.if_icmp .le 7, 3) := by decide +kernel
theorem dX3_isGreater_21 : decode cX3_isGreater 21 = .ok (.iconst 1, 1) := by decide +kernel
theorem dX3_isGreater_22 : decode cX3_isGreater 22 = .ok (.goto 4, 3) := by decide +kernel
theorem dX3_isGreater_25 : decode cX3_isGreater 25 = .ok (.iconst 0, 1) := by decide +kernel
theorem dX3_isGreater_26 : decode cX3_isGreater 26 = .ok (.ireturn, 1) := by decide +kernel
theorem dX3_note_0 : decode cX3_note 0 = .ok (.aload_n 0, 1) := by decide +kernel
theorem dX3_note_1 : decode cX3_note 1 = .ok (.getfield 21, 3) := by decide +kernel
theorem dX3_note_4 : decode cX3_note 4 = .ok (.ifCond .ne 18, 3) := by decide +kernel
theorem dX3_note_7 : decode cX3_note 7 = .ok (.aload_n 0, 1) := by decide +kernel
theorem dX3_note_8 : decode cX3_note 8 = .ok (.iload_n 1, 1) := by decide +kernel
theorem dX3_note_9 : decode cX3_note 9 = .ok (.putfield 9, 3) := by decide +kernel
theorem dX3_note_12 : decode cX3_note 12 = .ok (.aload_n 0, 1) := by decide +kernel
theorem dX3_note_13 : decode cX3_note 13 = .ok (.iload_n 2, 1) := by decide +kernel
theorem dX3_note_14 : decode cX3_note 14 = .ok (.putfield 15, 3) := by decide +kernel
theorem dX3_note_17 : decode cX3_note 17 = .ok (.aload_n 0, 1) := by decide +kernel
theorem dX3_note_18 : decode cX3_note 18 = .ok (.iload_n 3, 1) := by decide +kernel
theorem dX3_note_19 : decode cX3_note 19 = .ok (.putfield 18, 3) := by decide +kernel
theorem dX3_note_22 : decode cX3_note 22 = .ok (.aload_n 0, 1) := by decide +kernel
theorem dX3_note_23 : decode cX3_note 23 = .ok (.dup, 1) := by decide +kernel
theorem dX3_note_24 : decode cX3_note 24 = .ok (.getfield 21, 3) := by decide +kernel
theorem dX3_note_27 : decode cX3_note 27 = .ok (.iconst 1, 1) := by decide +kernel
theorem dX3_note_28 : decode cX3_note 28 = .ok (.iadd, 1) := by decide +kernel
theorem dX3_note_29 : decode cX3_note 29 = .ok (.putfield 21, 3) := by decide +kernel
theorem dX3_note_32 : decode cX3_note 32 = .ok (.return_, 1) := by decide +kernel
theorem dX4_init_0 : decode cX4_init 0 = .ok (.aload_n 0, 1) := by decide +kernel
theorem dX4_init_1 : decode cX4_init 1 = .ok (.invokespecial 1, 3) := by decide +kernel
theorem dX4_init_4 : decode cX4_init 4 = .ok (.aload_n 0, 1) := by decide +kernel
theorem dX4_init_5 : decode cX4_init 5 = .ok (.iconst 0, 1) := by decide +kernel
theorem dX4_init_6 : decode cX4_init 6 = .ok (.putfield 7, 3) := by decide +kernel
theorem dX4_init_9 : decode cX4_init 9 = .ok (.aload_n 0, 1) := by decide +kernel
theorem dX4_init_10 : decode cX4_init 10 = .ok (.new 13, 3) := by decide +kernel
theorem dX4_init_13 : decode cX4_init 13 = .ok (.dup, 1) := by decide +kernel
theorem dX4_init_14 : decode cX4_init 14 = .ok (.invokespecial 15, 3) := by decide +kernel
theorem dX4_init_17 : decode cX4_init 17 = .ok (.putfield 16, 3) := by decide +kernel
theorem dX4_init_20 : decode cX4_init 20 = .ok (.return_, 1) := by decide +kernel
theorem dX4_fillFrom_0 : decode cX4_fillFrom 0 = .ok (.aload_n 0, 1) := by decide +kernel
theorem dX4_fillFrom_1 : decode cX4_fillFrom 1 = .ok (.getfield 16, 3) := by decide +kernel
theorem dX4_fillFrom_4 : decode cX4_fillFrom 4 = .ok (.aload_n 1, 1) := by decide +kernel
theorem dX4_fillFrom_5 : decode cX4_fillFrom 5 = .ok (.invokevirtual 20, 3) := by decide +kernel
theorem dX4_fillFrom_8 : decode cX4_fillFrom 8 = .ok (.aload_n 0, 1) := by decide +kernel
theorem dX4_fillFrom_9 : decode cX4_fillFrom 9 = .ok (.iconst 1, 1) := by decide +kernel
theorem dX4_fillFrom_10 : decode cX4_fillFrom 10 = .ok (.putfield 7, 3) := by decide +kernel
theorem dX4_fillFrom_13 : decode cX4_fillFrom 13 = .ok (.return_, 1) := by decide +kernel
theorem dX5_init_0 : decode cX5_init 0 = .ok (.aload_n 0, 1) := by decide +kernel
theorem dX5_init_1 : decode cX5_init 1 = .ok (.invokespecial 3, 3) := by decide +kernel
theorem dX5_init_4 : decode cX5_init 4 = .ok (.aload_n 0, 1) := by decide +kernel
theorem dX5_init_5 : decode cX5_init 5 = .ok (.iconst 4, 1) := by decide +kernel
theorem dX5_init_6 : decode cX5_init 6 = .ok (.putfield 9, 3) := by decide +kernel
theorem dX5_init_9 : decode cX5_init 9 = .ok (.aload_n 0, 1) := by decide +kernel
theorem dX5_init_10 : decode cX5_init 10 = .ok (.iconst 4, 1) := by decide +kernel
theorem dX5_init_11 : decode cX5_init 11 = .ok (.putfield 15, 3) := by decide +kernel
theorem dX5_init_14 : decode cX5_init 14 = .ok (.aload_n 0, 1) := by decide +kernel
theorem dX5_init_15 : decode cX5_init 15 = .ok (.iconst 1, 1) := by decide +kernel
theorem dX5_init_16 : decode cX5_init 16 = .ok (.putfield 18, 3) := by decide +kernel
theorem dX5_init_19 : decode cX5_init 19 = .ok (.aload_n 0, 1) := by decide +kernel
theorem dX5_init_20 : decode cX5_init 20 = .ok (.iconst 0, 1) := by decide +kernel
theorem dX5_init_21 : decode cX5_init 21 = .ok (.putfield 21, 3) := by decide +kernel
theorem dX5_init_24 : decode cX5_init 24 = .ok (.aload_n 0, 1) := by decide +kernel
theorem dX5_init_25 : decode cX5_init 25 = .ok (.iconst 0, 1) := by decide +kernel
theorem dX5_init_26 : decode cX5_init 26 = .ok (.putfield 24, 3) := by decide +kernel
theorem dX5_init_29 : decode cX5_init 29 = .ok (.aload_n 0, 1) := by decide +kernel
theorem dX5_init_30 : decode cX5_init 30 = .ok (.iconst 0, 1) := by decide +kernel
theorem dX5_init_31 : decode cX5_init 31 = .ok (.putfield 27, 3) := by decide +kernel
theorem dX5_init_34 : decode cX5_init 34 = .ok (.aload_n 0, 1) := by decide +kernel
theorem dX5_init_35 : decode cX5_init 35 = .ok (.bipush 100, 2) := by decide +kernel
theorem dX5_init_37 : decode cX5_init 37 = .ok (.newarray .int, 2) := by decide +kernel
theorem dX5_init_39 : decode cX5_init 39 = .ok (.putfield 30, 3) := by decide +kernel
theorem dX5_init_42 : decode cX5_init 42 = .ok (.aload_n 0, 1) := by decide +kernel
theorem dX5_init_43 : decode cX5_init 43 = .ok (.bipush 10, 2) := by decide +kernel
theorem dX5_init_45 : decode cX5_init 45 = .ok (.newarray .int, 2) := by decide +kernel
theorem dX5_init_47 : decode cX5_init 47 = .ok (.putfield 34, 3) := by decide +kernel
theorem dX5_init_50 : decode cX5_init 50 = .ok (.aload_n 0, 1) := by decide +kernel
theorem dX5_init_51 : decode cX5_init 51 = .ok (.getfield 34, 3) := by decide +kernel
theorem dX5_init_54 : decode cX5_init 54 = .ok (.iconst 0, 1) := by decide +kernel
theorem dX5_init_55 : decode cX5_init 55 = .ok (.iconst 1, 1) := by decide +kernel
theorem dX5_init_56 : decode cX5_init 56 = .ok (.invokestatic 37, 3) := by decide +kernel
theorem dX5_init_59 : decode cX5_init 59 = .ok (.return_, 1) := by decide +kernel
theorem dX5_hasCell_0 : decode cX5_hasCell 0 = .ok (.iload_n 1, 1) := by decide +kernel
theorem dX5_hasCell_1 : decode cX5_hasCell 1 = .ok (.iconst 0, 1) := by decide +kernel
theorem dX5_hasCell_2 : decode cX5_hasCell 2 = .ok (.aload_n 0, 1) := by decide +kernel
theorem dX5_hasCell_3 : decode cX5_hasCell 3 = .ok (.getfield 9, 3) := by decide +kernel
theorem dX5_hasCell_6 : decode cX5_hasCell 6 = .ok (.iconst 1, 1) := by decide +kernel
theorem dX5_hasCell_7 : decode cX5_hasCell 7 = .ok (.isub, 1) := by decide +kernel
theorem dX5_hasCell_8 : decode cX5_hasCell 8 = .ok (.invokestatic 41, 3) := by decide +kernel
theorem dX5_hasCell_11 : decode cX5_hasCell 11 = .ok (.ifCond .eq 21, 3) := by decide +kernel
theorem dX5_hasCell_14 : decode cX5_hasCell 14 = .ok (.iload_n 2, 1) := by decide +kernel
theorem dX5_hasCell_15 : decode cX5_hasCell 15 = .ok (.iconst 0, 1) := by decide +kernel
theorem dX5_hasCell_16 : decode cX5_hasCell 16 = .ok (.aload_n 0, 1) := by decide +kernel
theorem dX5_hasCell_17 : decode cX5_hasCell 17 = .ok (.getfield 15, 3) := by decide +kernel
theorem dX5_hasCell_20 : decode cX5_hasCell 20 = .ok (.iconst 1, 1) := by decide +kernel
theorem dX5_hasCell_21 : decode cX5_hasCell 21 = .ok (.isub, 1) := by decide +kernel
theorem dX5_hasCell_22 : decode cX5_hasCell 22 = .ok (.invokestatic 41, 3) := by decide +kernel
theorem dX5_hasCell_25 : decode cX5_hasCell 25 = .ok (.ifCond .eq 7, 3) := by decide +kernel
theorem dX5_hasCell_28 : decode cX5_hasCell 28 = .ok (.iconst 1, 1) := by decide +kernel
theorem dX5_hasCell_29 : decode cX5_hasCell 29 = .ok (.goto 4, 3) := by decide +kernel
theorem dX5_hasCell_32 : decode cX5_hasCell 32 = .ok (.iconst 0, 1) := by decide +kernel
theorem dX5_hasCell_33 : decode cX5_hasCell 33 = .ok (.ireturn, 1) := by decide +kernel
theorem dX5_sizeCode_0 : decode cX5_sizeCode 0 = .ok (.bipush 11, 2) := by decide +kernel
theorem dX5_sizeCode_2 : decode cX5_sizeCode 2 = .ok (.aload_n 0, 1) := by decide +kernel
theorem dX5_sizeCode_3 : decode cX5_sizeCode 3 = .ok (.getfield 9, 3) := by decide +kernel
theorem dX5_sizeCode_6 : decode cX5_sizeCode 6 = .ok (.imul, 1) := by decide +kernel
theorem dX5_sizeCode_7 : decode cX5_sizeCode 7 = .ok (.aload_n 0, 1) := by decide +kernel
theorem dX5_sizeCode_8 : decode cX5_sizeCode 8 = .ok (.getfield 15, 3) := by decide +kernel
theorem dX5_sizeCode_11 : decode cX5_sizeCode 11 = .ok (.iadd, 1) := by decide +kernel
theorem dX5_sizeCode_12 : decode cX5_sizeCode 12 = .ok (.ireturn, 1) := by decide +kernel
theorem dX5_numberAt_0 : decode cX5_numberAt 0 = .ok (.iload_n 1, 1) := by decide +kernel
theorem dX5_numberAt_1 : decode cX5_numberAt 1 = .ok (.bipush 10, 2) := by decide +kernel
theorem dX5_numberAt_3 : decode cX5_numberAt 3 = .ok (.imul, 1) := by decide +kernel
theorem dX5_numberAt_4 : decode cX5_numberAt 4 = .ok (.iload_n 2, 1) := by decide +kernel
theorem dX5_numberAt_5 : decode cX5_numberAt 5 = .ok (.iadd, 1) := by decide +kernel
theorem dX5_numberAt_6 : decode cX5_numberAt 6 = .ok (.istore_n 3, 1) := by decide +kernel
theorem dX5_numberAt_7 : decode cX5_numberAt 7 = .ok (.iload_n 3, 1) := by decide +kernel
theorem dX5_numberAt_8 : decode cX5_numberAt 8 = .ok (.ifCond .lt 12, 3) := by decide +kernel
theorem dX5_numberAt_11 : decode cX5_numberAt 11 = .ok (.iload_n 3, 1) := by decide +kernel
theorem dX5_numberAt_12 : decode cX5_numberAt 12 = .ok (.aload_n 0, 1) := by decide +kernel
theorem dX5_numberAt_13 : decode cX5_numberAt 13 = .ok (.getfield 30, 3) := by decide +kernel
theorem dX5_numberAt_16 : decode cX5_numberAt 16 = .ok (.arraylength, 1) := by decide +kernel
theorem dX5_numberAt_17 : decode cX5_numberAt 17 = .ok (.if_icmp .lt 7, 3) := by decide +kernel
theorem dX5_numberAt_20 : decode cX5_numberAt 20 = .ok (.iconst 0, 1) := by decide +kernel
theorem dX5_numberAt_21 : decode cX5_numberAt 21 = .ok (.goto 9, 3) := by decide +kernel
theorem dX5_numberAt_24 : decode cX5_numberAt 24 = .ok (.aload_n 0, 1) := by decide +kernel
theorem dX5_numberAt_25 : decode cX5_numberAt 25 = .ok (.getfield 30, 3) := by decide +kernel
theorem dX5_numberAt_28 : decode cX5_numberAt 28 = .ok (.iload_n 3, 1) := by decide +kernel
theorem dX5_numberAt_29 : decode cX5_numberAt 29 = .ok (.iaload, 1) := by decide +kernel
theorem dX5_numberAt_30 : decode cX5_numberAt 30 = .ok (.ireturn, 1) := by decide +kernel
theorem dX5_setNumber_0 : decode cX5_setNumber 0 = .ok (.aload_n 0, 1) := by decide +kernel
theorem dX5_setNumber_1 : decode cX5_setNumber 1 = .ok (.getfield 30, 3) := by decide +kernel
theorem dX5_setNumber_4 : decode cX5_setNumber 4 = .ok (.iload_n 1, 1) := by decide +kernel
theorem dX5_setNumber_5 : decode cX5_setNumber 5 = .ok (.bipush 10, 2) := by decide +kernel
theorem dX5_setNumber_7 : decode cX5_setNumber 7 = .ok (.imul, 1) := by decide +kernel
theorem dX5_setNumber_8 : decode cX5_setNumber 8 = .ok (.iload_n 2, 1) := by decide +kernel
theorem dX5_setNumber_9 : decode cX5_setNumber 9 = .ok (.iadd, 1) := by decide +kernel
theorem dX5_setNumber_10 : decode cX5_setNumber 10 = .ok (.iload_n 3, 1) := by decide +kernel
theorem dX5_setNumber_11 : decode cX5_setNumber 11 = .ok (.invokestatic 37, 3) := by decide +kernel
theorem dX5_setNumber_14 : decode cX5_setNumber 14 = .ok (.return_, 1) := by decide +kernel
theorem dX5_weightAt_0 : decode cX5_weightAt 0 = .ok (.aload_n 0, 1) := by decide +kernel
theorem dX5_weightAt_1 : decode cX5_weightAt 1 = .ok (.getfield 34, 3) := by decide +kernel
theorem dX5_weightAt_4 : decode cX5_weightAt 4 = .ok (.iload_n 1, 1) := by decide +kernel
theorem dX5_weightAt_5 : decode cX5_weightAt 5 = .ok (.invokestatic 45, 3) := by decide +kernel
theorem dX5_weightAt_8 : decode cX5_weightAt 8 = .ok (.ireturn, 1) := by decide +kernel
theorem dX5_addWeight_0 : decode cX5_addWeight 0 = .ok (.aload_n 0, 1) := by decide +kernel
theorem dX5_addWeight_1 : decode cX5_addWeight 1 = .ok (.getfield 34, 3) := by decide +kernel
theorem dX5_addWeight_4 : decode cX5_addWeight 4 = .ok (.aload_n 0, 1) := by decide +kernel
theorem dX5_addWeight_5 : decode cX5_addWeight 5 = .ok (.getfield 18, 3) := by decide +kernel
theorem dX5_addWeight_8 : decode cX5_addWeight 8 = .ok (.iload_n 1, 1) := by decide +kernel
theorem dX5_addWeight_9 : decode cX5_addWeight 9 = .ok (.invokestatic 37, 3) := by decide +kernel
theorem dX5_addWeight_12 : decode cX5_addWeight 12 = .ok (.aload_n 0, 1) := by decide +kernel
theorem dX5_addWeight_13 : decode cX5_addWeight 13 = .ok (.dup, 1) := by decide +kernel
theorem dX5_addWeight_14 : decode cX5_addWeight 14 = .ok (.getfield 18, 3) := by decide +kernel
theorem dX5_addWeight_17 : decode cX5_addWeight 17 = .ok (.iconst 1, 1) := by decide +kernel
theorem dX5_addWeight_18 : decode cX5_addWeight 18 = .ok (.iadd, 1) := by decide +kernel
theorem dX5_addWeight_19 : decode cX5_addWeight 19 = .ok (.putfield 18, 3) := by decide +kernel
theorem dX5_addWeight_22 : decode cX5_addWeight 22 = .ok (.return_, 1) := by decide +kernel
theorem dX5_weightsTogether_0 : decode cX5_weightsTogether 0 = .ok (.iconst 0, 1) := by decide +kernel
theorem dX5_weightsTogether_1 : decode cX5_weightsTogether 1 = .ok (.istore_n 1, 1) := by decide +kernel
theorem dX5_weightsTogether_2 : decode cX5_weightsTogether 2 = .ok (.iconst 0, 1) := by decide +kernel
theorem dX5_weightsTogether_3 : decode cX5_weightsTogether 3 = .ok (.istore_n 2, 1) := by decide +kernel
theorem dX5_weightsTogether_4 : decode cX5_weightsTogether 4 = .ok (.iload_n 2, 1) := by decide +kernel
theorem dX5_weightsTogether_5 : decode cX5_weightsTogether 5 = .ok (.aload_n 0, 1) := by decide +kernel
theorem dX5_weightsTogether_6 : decode cX5_weightsTogether 6 = .ok (.getfield 18, 3) := by decide +kernel
theorem dX5_weightsTogether_9 : decode cX5_weightsTogether 9 = .ok (.if_icmp .ge 17, 3) := by decide +kernel
theorem dX5_weightsTogether_12 : decode cX5_weightsTogether 12 = .ok (.iload_n 1, 1) := by decide +kernel
theorem dX5_weightsTogether_13 : decode cX5_weightsTogether 13 = .ok (.aload_n 0, 1) := by decide +kernel
theorem dX5_weightsTogether_14 : decode cX5_weightsTogether 14 = .ok (.iload_n 2, 1) := by decide +kernel
theorem dX5_weightsTogether_15 : decode cX5_weightsTogether 15 = .ok (.invokevirtual 49, 3) := by decide +kernel
theorem dX5_weightsTogether_18 : decode cX5_weightsTogether 18 = .ok (.iadd, 1) := by decide +kernel
theorem dX5_weightsTogether_19 : decode cX5_weightsTogether 19 = .ok (.istore_n 1, 1) := by decide +kernel
theorem dX5_weightsTogether_20 : decode cX5_weightsTogether 20 = .ok (.iinc 2 1, 3) := by decide +kernel
theorem dX5_weightsTogether_23 : decode cX5_weightsTogether 23 = .ok (.goto (-19), 3) := by decide +kernel
theorem dX5_weightsTogether_26 : decode cX5_weightsTogether 26 = .ok (.iload_n 1, 1) := by decide +kernel
theorem dX5_weightsTogether_27 : decode cX5_weightsTogether 27 = .ok (.ireturn, 1) := by decide +kernel
theorem dX5_copyFrom_0 : decode cX5_copyFrom 0 = .ok (.aload_n 1, 1) := by decide +kernel
theorem dX5_copyFrom_1 : decode cX5_copyFrom 1 = .ok (.ifnonnull 4, 3) := by decide +kernel
theorem dX5_copyFrom_4 : decode cX5_copyFrom 4 = .ok (.return_, 1) := by decide +kernel
theorem dX5_copyFrom_5 : decode cX5_copyFrom 5 = .ok (.aload_n 0, 1) := by decide +kernel
theorem dX5_copyFrom_6 : decode cX5_copyFrom 6 = .ok (.aload_n 1, 1) := by decide +kernel
theorem dX5_copyFrom_7 : decode cX5_copyFrom 7 = .ok (.getfield 9, 3) := by decide +kernel
theorem dX5_copyFrom_10 : decode cX5_copyFrom 10 = .ok (.putfield 9, 3) := by decide +kernel
theorem dX5_copyFrom_13 : decode cX5_copyFrom 13 = .ok (.aload_n 0, 1) := by decide +kernel
theorem dX5_copyFrom_14 : decode cX5_copyFrom 14 = .ok (.aload_n 1, 1) := by decide +kernel
theorem dX5_copyFrom_15 : decode cX5_copyFrom 15 = .ok (.getfield 15, 3) := by decide +kernel
theorem dX5_copyFrom_18 : decode cX5_copyFrom 18 = .ok (.putfield 15, 3) := by decide +kernel
theorem dX5_copyFrom_21 : decode cX5_copyFrom 21 = .ok (.aload_n 0, 1) := by decide +kernel
theorem dX5_copyFrom_22 : decode cX5_copyFrom 22 = .ok (.aload_n 1, 1) := by decide +kernel
theorem dX5_copyFrom_23 : decode cX5_copyFrom 23 = .ok (.getfield 18, 3) := by decide +kernel
theorem dX5_copyFrom_26 : decode cX5_copyFrom 26 = .ok (.putfield 18, 3) := by decide +kernel
end
section
theorem dX5_copyFrom_29 : decode cX5_copyFrom 29 = .ok (.aload_n 0, 1) := by decide +kernel
theorem dX5_copyFrom_30 : decode cX5_copyFrom 30 = .ok (.aload_n 1, 1) := by decide +kernel
theorem dX5_copyFrom_31 : decode cX5_copyFrom 31 = .ok (.getfield 21, 3) := by decide +kernel
theorem dX5_copyFrom_34 : decode cX5_copyFrom 34 = .ok (.putfield 21, 3) := by decide +kernel
theorem dX5_copyFrom_37 : decode cX5_copyFrom 37 = .ok (.aload_n 0, 1) := by decide +kernel
theorem dX5_copyFrom_38 : decode cX5_copyFrom 38 = .ok (.aload_n 1, 1) := by decide +kernel
theorem dX5_copyFrom_39 : decode cX5_copyFrom 39 = .ok (.getfield 24, 3) := by decide +kernel
theorem dX5_copyFrom_42 : decode cX5_copyFrom 42 = .ok (.putfield 24, 3) := by decide +kernel
theorem dX5_copyFrom_45 : decode cX5_copyFrom 45 = .ok (.aload_n 0, 1) := by decide +kernel
theorem dX5_copyFrom_46 : decode cX5_copyFrom 46 = .ok (.aload_n 1, 1) := by decide +kernel
theorem dX5_copyFrom_47 : decode cX5_copyFrom 47 = .ok (.getfield 27, 3) := by decide +kernel
theorem dX5_copyFrom_50 : decode cX5_copyFrom 50 = .ok (.putfield 27, 3) := by decide +kernel
theorem dX5_copyFrom_53 : decode cX5_copyFrom 53 = .ok (.aload_n 1, 1) := by decide +kernel
theorem dX5_copyFrom_54 : decode cX5_copyFrom 54 = .ok (.getfield 30, 3) := by decide +kernel
theorem dX5_copyFrom_57 : decode cX5_copyFrom 57 = .ok (.aload_n 0, 1) := by decide +kernel
theorem dX5_copyFrom_58 : decode cX5_copyFrom 58 = .ok (.getfield 30, 3) := by decide +kernel
theorem dX5_copyFrom_61 : decode cX5_copyFrom 61 = .ok (.invokestatic 53, 3) := by decide +kernel
theorem dX5_copyFrom_64 : decode cX5_copyFrom 64 = .ok (.aload_n 1, 1) := by decide +kernel
theorem dX5_copyFrom_65 : decode cX5_copyFrom 65 = .ok (.getfield 34, 3) := by decide +kernel
theorem dX5_copyFrom_68 : decode cX5_copyFrom 68 = .ok (.aload_n 0, 1) := by decide +kernel
theorem dX5_copyFrom_69 : decode cX5_copyFrom 69 = .ok (.getfield 34, 3) := by decide +kernel
theorem dX5_copyFrom_72 : decode cX5_copyFrom 72 = .ok (.invokestatic 53, 3) := by decide +kernel
theorem dX5_copyFrom_75 : decode cX5_copyFrom 75 = .ok (.return_, 1) := by decide +kernel
theorem dX6_init_0 : decode cX6_init 0 = .ok (.aload_n 0, 1) := by decide +kernel
theorem dX6_init_1 : decode cX6_init 1 = .ok (.invokespecial 3, 3) := by decide +kernel
theorem dX6_init_4 : decode cX6_init 4 = .ok (.aload_n 0, 1) := by decide +kernel
theorem dX6_init_5 : decode cX6_init 5 = .ok (.iconst 0, 1) := by decide +kernel
theorem dX6_init_6 : decode cX6_init 6 = .ok (.putfield 9, 3) := by decide +kernel
theorem dX6_init_9 : decode cX6_init 9 = .ok (.aload_n 0, 1) := by decide +kernel
theorem dX6_init_10 : decode cX6_init 10 = .ok (.bipush 60, 2) := by decide +kernel
theorem dX6_init_12 : decode cX6_init 12 = .ok (.newarray .int, 2) := by decide +kernel
theorem dX6_init_14 : decode cX6_init 14 = .ok (.putfield 15, 3) := by decide +kernel
theorem dX6_init_17 : decode cX6_init 17 = .ok (.aload_n 0, 1) := by decide +kernel
theorem dX6_init_18 : decode cX6_init 18 = .ok (.bipush 100, 2) := by decide +kernel
theorem dX6_init_20 : decode cX6_init 20 = .ok (.newarray .int, 2) := by decide +kernel
theorem dX6_init_22 : decode cX6_init 22 = .ok (.putfield 19, 3) := by decide +kernel
theorem dX6_init_25 : decode cX6_init 25 = .ok (.aload_n 0, 1) := by decide +kernel
theorem dX6_init_26 : decode cX6_init 26 = .ok (.iconst 0, 1) := by decide +kernel
theorem dX6_init_27 : decode cX6_init 27 = .ok (.putfield 22, 3) := by decide +kernel
theorem dX6_init_30 : decode cX6_init 30 = .ok (.aload_n 0, 1) := by decide +kernel
theorem dX6_init_31 : decode cX6_init 31 = .ok (.iconst 0, 1) := by decide +kernel
theorem dX6_init_32 : decode cX6_init 32 = .ok (.putfield 25, 3) := by decide +kernel
theorem dX6_init_35 : decode cX6_init 35 = .ok (.aload_n 0, 1) := by decide +kernel
theorem dX6_init_36 : decode cX6_init 36 = .ok (.iconst 0, 1) := by decide +kernel
theorem dX6_init_37 : decode cX6_init 37 = .ok (.putfield 28, 3) := by decide +kernel
theorem dX6_init_40 : decode cX6_init 40 = .ok (.aload_n 0, 1) := by decide +kernel
theorem dX6_init_41 : decode cX6_init 41 = .ok (.iconst 0, 1) := by decide +kernel
theorem dX6_init_42 : decode cX6_init 42 = .ok (.putfield 31, 3) := by decide +kernel
theorem dX6_init_45 : decode cX6_init 45 = .ok (.aload_n 0, 1) := by decide +kernel
theorem dX6_init_46 : decode cX6_init 46 = .ok (.iconst 0, 1) := by decide +kernel
theorem dX6_init_47 : decode cX6_init 47 = .ok (.putfield 34, 3) := by decide +kernel
theorem dX6_init_50 : decode cX6_init 50 = .ok (.return_, 1) := by decide +kernel
theorem dX6_add_0 : decode cX6_add 0 = .ok (.aload_n 0, 1) := by decide +kernel
theorem dX6_add_1 : decode cX6_add 1 = .ok (.getfield 15, 3) := by decide +kernel
theorem dX6_add_4 : decode cX6_add 4 = .ok (.aload_n 0, 1) := by decide +kernel
theorem dX6_add_5 : decode cX6_add 5 = .ok (.getfield 9, 3) := by decide +kernel
theorem dX6_add_8 : decode cX6_add 8 = .ok (.iload_n 1, 1) := by decide +kernel
theorem dX6_add_9 : decode cX6_add 9 = .ok (.invokestatic 37, 3) := by decide +kernel
theorem dX6_add_12 : decode cX6_add 12 = .ok (.aload_n 0, 1) := by decide +kernel
theorem dX6_add_13 : decode cX6_add 13 = .ok (.dup, 1) := by decide +kernel
theorem dX6_add_14 : decode cX6_add 14 = .ok (.getfield 9, 3) := by decide +kernel
theorem dX6_add_17 : decode cX6_add 17 = .ok (.iconst 1, 1) := by decide +kernel
theorem dX6_add_18 : decode cX6_add 18 = .ok (.iadd, 1) := by decide +kernel
theorem dX6_add_19 : decode cX6_add 19 = .ok (.putfield 9, 3) := by decide +kernel
theorem dX6_add_22 : decode cX6_add 22 = .ok (.return_, 1) := by decide +kernel
theorem dX6_clear_0 : decode cX6_clear 0 = .ok (.aload_n 0, 1) := by decide +kernel
theorem dX6_clear_1 : decode cX6_clear 1 = .ok (.iconst 0, 1) := by decide +kernel
theorem dX6_clear_2 : decode cX6_clear 2 = .ok (.putfield 9, 3) := by decide +kernel
theorem dX6_clear_5 : decode cX6_clear 5 = .ok (.return_, 1) := by decide +kernel
theorem dX6_codeAt_0 : decode cX6_codeAt 0 = .ok (.aload_n 0, 1) := by decide +kernel
theorem dX6_codeAt_1 : decode cX6_codeAt 1 = .ok (.getfield 15, 3) := by decide +kernel
theorem dX6_codeAt_4 : decode cX6_codeAt 4 = .ok (.iload_n 1, 1) := by decide +kernel
theorem dX6_codeAt_5 : decode cX6_codeAt 5 = .ok (.invokestatic 41, 3) := by decide +kernel
theorem dX6_codeAt_8 : decode cX6_codeAt 8 = .ok (.ireturn, 1) := by decide +kernel
theorem dX6_readToError_0 : decode cX6_readToError 0 = .ok (.aload_n 0, 1) := by decide +kernel
theorem dX6_readToError_1 : decode cX6_readToError 1 = .ok (.iconst 0, 1) := by decide +kernel
theorem dX6_readToError_2 : decode cX6_readToError 2 = .ok (.putfield 22, 3) := by decide +kernel
theorem dX6_readToError_5 : decode cX6_readToError 5 = .ok (.aload_n 0, 1) := by decide +kernel
theorem dX6_readToError_6 : decode cX6_readToError 6 = .ok (.iconst 0, 1) := by decide +kernel
theorem dX6_readToError_7 : decode cX6_readToError 7 = .ok (.putfield 25, 3) := by decide +kernel
theorem dX6_readToError_10 : decode cX6_readToError 10 = .ok (.aload_n 0, 1) := by decide +kernel
theorem dX6_readToError_11 : decode cX6_readToError 11 = .ok (.bipush 10, 2) := by decide +kernel
theorem dX6_readToError_13 : decode cX6_readToError 13 = .ok (.putfield 28, 3) := by decide +kernel
theorem dX6_readToError_16 : decode cX6_readToError 16 = .ok (.aload_n 0, 1) := by decide +kernel
theorem dX6_readToError_17 : decode cX6_readToError 17 = .ok (.iconst 0, 1) := by decide +kernel
theorem dX6_readToError_18 : decode cX6_readToError 18 = .ok (.putfield 31, 3) := by decide +kernel
theorem dX6_readToError_21 : decode cX6_readToError 21 = .ok (.aload_n 0, 1) := by decide +kernel
theorem dX6_readToError_22 : decode cX6_readToError 22 = .ok (.iconst 0, 1) := by decide +kernel
theorem dX6_readToError_23 : decode cX6_readToError 23 = .ok (.putfield 34, 3) := by decide +kernel
theorem dX6_readToError_26 : decode cX6_readToError 26 = .ok (.iconst 0, 1) := by decide +kernel
theorem dX6_readToError_27 : decode cX6_readToError 27 = .ok (.istore_n 1, 1) := by decide +kernel
theorem dX6_readToError_28 : decode cX6_readToError 28 = .ok (.iload_n 1, 1) := by decide +kernel
theorem dX6_readToError_29 : decode cX6_readToError 29 = .ok (.aload_n 0, 1) := by decide +kernel
theorem dX6_readToError_30 : decode cX6_readToError 30 = .ok (.getfield 9, 3) := by decide +kernel
theorem dX6_readToError_33 : decode cX6_readToError 33 = .ok (.if_icmp .ge 23, 3) := by decide +kernel
theorem dX6_readToError_36 : decode cX6_readToError 36 = .ok (.aload_n 0, 1) := by decide +kernel
theorem dX6_readToError_37 : decode cX6_readToError 37 = .ok (.aload_n 0, 1) := by decide +kernel
theorem dX6_readToError_38 : decode cX6_readToError 38 = .ok (.iload_n 1, 1) := by decide +kernel
theorem dX6_readToError_39 : decode cX6_readToError 39 = .ok (.invokevirtual 45, 3) := by decide +kernel
theorem dX6_readToError_42 : decode cX6_readToError 42 = .ok (.invokevirtual 49, 3) := by decide +kernel
theorem dX6_readToError_45 : decode cX6_readToError 45 = .ok (.ifCond .ne 5, 3) := by decide +kernel
theorem dX6_readToError_48 : decode cX6_readToError 48 = .ok (.iload_n 1, 1) := by decide +kernel
theorem dX6_readToError_49 : decode cX6_readToError 49 = .ok (.ireturn, 1) := by decide +kernel
theorem dX6_readToError_50 : decode cX6_readToError 50 = .ok (.iinc 1 1, 3) := by decide +kernel
theorem dX6_readToError_53 : decode cX6_readToError 53 = .ok (.goto (-25), 3) := by decide +kernel
theorem dX6_readToError_56 : decode cX6_readToError 56 = .ok (.aload_n 0, 1) := by decide +kernel
theorem dX6_readToError_57 : decode cX6_readToError 57 = .ok (.getfield 9, 3) := by decide +kernel
theorem dX6_readToError_60 : decode cX6_readToError 60 = .ok (.ireturn, 1) := by decide +kernel
theorem dX6_tellsTable_0 : decode cX6_tellsTable 0 = .ok (.aload_n 0, 1) := by decide +kernel
theorem dX6_tellsTable_1 : decode cX6_tellsTable 1 = .ok (.invokevirtual 53, 3) := by decide +kernel
theorem dX6_tellsTable_4 : decode cX6_tellsTable 4 = .ok (.aload_n 0, 1) := by decide +kernel
theorem dX6_tellsTable_5 : decode cX6_tellsTable 5 = .ok (.getfield 9, 3) := by decide +kernel
theorem dX6_tellsTable_8 : decode cX6_tellsTable 8 = .ok (.if_icmp .ne 21, 3) := by decide +kernel
theorem dX6_tellsTable_11 : decode cX6_tellsTable 11 = .ok (.aload_n 0, 1) := by decide +kernel
theorem dX6_tellsTable_12 : decode cX6_tellsTable 12 = .ok (.getfield 31, 3) := by decide +kernel
theorem dX6_tellsTable_15 : decode cX6_tellsTable 15 = .ok (.ifCond .le 14, 3) := by decide +kernel
theorem dX6_tellsTable_18 : decode cX6_tellsTable 18 = .ok (.aload_n 0, 1) := by decide +kernel
theorem dX6_tellsTable_19 : decode cX6_tellsTable 19 = .ok (.invokevirtual 57, 3) := by decide +kernel
theorem dX6_tellsTable_22 : decode cX6_tellsTable 22 = .ok (.ifCond .eq 7, 3) := by decide +kernel
theorem dX6_tellsTable_25 : decode cX6_tellsTable 25 = .ok (.iconst 1, 1) := by decide +kernel
theorem dX6_tellsTable_26 : decode cX6_tellsTable 26 = .ok (.goto 4, 3) := by decide +kernel
theorem dX6_tellsTable_29 : decode cX6_tellsTable 29 = .ok (.iconst 0, 1) := by decide +kernel
theorem dX6_tellsTable_30 : decode cX6_tellsTable 30 = .ok (.ireturn, 1) := by decide +kernel
theorem dX6_rowsTold_0 : decode cX6_rowsTold 0 = .ok (.aload_n 0, 1) := by decide +kernel
theorem dX6_rowsTold_1 : decode cX6_rowsTold 1 = .ok (.getfield 22, 3) := by decide +kernel
theorem dX6_rowsTold_4 : decode cX6_rowsTold 4 = .ok (.iconst 1, 1) := by decide +kernel
theorem dX6_rowsTold_5 : decode cX6_rowsTold 5 = .ok (.iadd, 1) := by decide +kernel
theorem dX6_rowsTold_6 : decode cX6_rowsTold 6 = .ok (.ireturn, 1) := by decide +kernel
theorem dX6_columnsTold_0 : decode cX6_columnsTold 0 = .ok (.aload_n 0, 1) := by decide +kernel
theorem dX6_columnsTold_1 : decode cX6_columnsTold 1 = .ok (.getfield 25, 3) := by decide +kernel
theorem dX6_columnsTold_4 : decode cX6_columnsTold 4 = .ok (.iconst 1, 1) := by decide +kernel
theorem dX6_columnsTold_5 : decode cX6_columnsTold 5 = .ok (.iadd, 1) := by decide +kernel
theorem dX6_columnsTold_6 : decode cX6_columnsTold 6 = .ok (.ireturn, 1) := by decide +kernel
theorem dX6_numberTold_0 : decode cX6_numberTold 0 = .ok (.aload_n 0, 1) := by decide +kernel
theorem dX6_numberTold_1 : decode cX6_numberTold 1 = .ok (.getfield 19, 3) := by decide +kernel
theorem dX6_numberTold_4 : decode cX6_numberTold 4 = .ok (.iload_n 1, 1) := by decide +kernel
theorem dX6_numberTold_5 : decode cX6_numberTold 5 = .ok (.bipush 10, 2) := by decide +kernel
theorem dX6_numberTold_7 : decode cX6_numberTold 7 = .ok (.imul, 1) := by decide +kernel
theorem dX6_numberTold_8 : decode cX6_numberTold 8 = .ok (.iload_n 2, 1) := by decide +kernel
theorem dX6_numberTold_9 : decode cX6_numberTold 9 = .ok (.iadd, 1) := by decide +kernel
theorem dX6_numberTold_10 : decode cX6_numberTold 10 = .ok (.invokestatic 41, 3) := by decide +kernel
theorem dX6_numberTold_13 : decode cX6_numberTold 13 = .ok (.ireturn, 1) := by decide +kernel
theorem dX6_takes_0 : decode cX6_takes 0 = .ok (.iload_n 1, 1) := by decide +kernel
theorem dX6_takes_1 : decode cX6_takes 1 = .ok (.bipush 48, 2) := by decide +kernel
theorem dX6_takes_3 : decode cX6_takes 3 = .ok (.bipush 57, 2) := by decide +kernel
theorem dX6_takes_5 : decode cX6_takes 5 = .ok (.invokestatic 61, 3) := by decide +kernel
theorem dX6_takes_8 : decode cX6_takes 8 = .ok (.ifCond .eq 12, 3) := by decide +kernel
theorem dX6_takes_11 : decode cX6_takes 11 = .ok (.aload_n 0, 1) := by decide +kernel
theorem dX6_takes_12 : decode cX6_takes 12 = .ok (.iload_n 1, 1) := by decide +kernel
theorem dX6_takes_13 : decode cX6_takes 13 = .ok (.bipush 48, 2) := by decide +kernel
theorem dX6_takes_15 : decode cX6_takes 15 = .ok (.isub, 1) := by decide +kernel
theorem dX6_takes_16 : decode cX6_takes 16 = .ok (.invokevirtual 65, 3) := by decide +kernel
theorem dX6_takes_19 : decode cX6_takes 19 = .ok (.ireturn, 1) := by decide +kernel
theorem dX6_takes_20 : decode cX6_takes 20 = .ok (.iload_n 1, 1) := by decide +kernel
theorem dX6_takes_21 : decode cX6_takes 21 = .ok (.bipush 44, 2) := by decide +kernel
theorem dX6_takes_23 : decode cX6_takes 23 = .ok (.if_icmp .ne 8, 3) := by decide +kernel
theorem dX6_takes_26 : decode cX6_takes 26 = .ok (.aload_n 0, 1) := by decide +kernel
theorem dX6_takes_27 : decode cX6_takes 27 = .ok (.invokevirtual 68, 3) := by decide +kernel
theorem dX6_takes_30 : decode cX6_takes 30 = .ok (.ireturn, 1) := by decide +kernel
theorem dX6_takes_31 : decode cX6_takes 31 = .ok (.iload_n 1, 1) := by decide +kernel
theorem dX6_takes_32 : decode cX6_takes 32 = .ok (.bipush 47, 2) := by decide +kernel
theorem dX6_takes_34 : decode cX6_takes 34 = .ok (.if_icmp .ne 14, 3) := by decide +kernel
theorem dX6_takes_37 : decode cX6_takes 37 = .ok (.aload_n 0, 1) := by decide +kernel
theorem dX6_takes_38 : decode cX6_takes 38 = .ok (.invokevirtual 71, 3) := by decide +kernel
theorem dX6_takes_41 : decode cX6_takes 41 = .ok (.ifCond .eq 7, 3) := by decide +kernel
theorem dX6_takes_44 : decode cX6_takes 44 = .ok (.iconst 1, 1) := by decide +kernel
theorem dX6_takes_45 : decode cX6_takes 45 = .ok (.goto 4, 3) := by decide +kernel
theorem dX6_takes_48 : decode cX6_takes 48 = .ok (.iconst 0, 1) := by decide +kernel
theorem dX6_takes_49 : decode cX6_takes 49 = .ok (.ireturn, 1) := by decide +kernel
theorem dX6_takesDigit_0 : decode cX6_takesDigit 0 = .ok (.aload_n 0, 1) := by decide +kernel
theorem dX6_takesDigit_1 : decode cX6_takesDigit 1 = .ok (.getfield 31, 3) := by decide +kernel
theorem dX6_takesDigit_4 : decode cX6_takesDigit 4 = .ok (.ifCond .ne 7, 3) := by decide +kernel
theorem dX6_takesDigit_7 : decode cX6_takesDigit 7 = .ok (.iconst 1, 1) := by decide +kernel
theorem dX6_takesDigit_8 : decode cX6_takesDigit 8 = .ok (.goto 4, 3) := by decide +kernel
theorem dX6_takesDigit_11 : decode cX6_takesDigit 11 = .ok (.iconst 0, 1) := by decide +kernel
theorem dX6_takesDigit_12 : decode cX6_takesDigit 12 = .ok (.istore_n 2, 1) := by decide +kernel
theorem dX6_takesDigit_13 : decode cX6_takesDigit 13 = .ok (.iload_n 2, 1) := by decide +kernel
theorem dX6_takesDigit_14 : decode cX6_takesDigit 14 = .ok (.ifCond .ne 20, 3) := by decide +kernel
theorem dX6_takesDigit_17 : decode cX6_takesDigit 17 = .ok (.aload_n 0, 1) := by decide +kernel
theorem dX6_takesDigit_18 : decode cX6_takesDigit 18 = .ok (.getfield 34, 3) := by decide +kernel
theorem dX6_takesDigit_21 : decode cX6_takesDigit 21 = .ok (.ifCond .eq 11, 3) := by decide +kernel
theorem dX6_takesDigit_24 : decode cX6_takesDigit 24 = .ok (.aload_n 0, 1) := by decide +kernel
theorem dX6_takesDigit_25 : decode cX6_takesDigit 25 = .ok (.getfield 31, 3) := by decide +kernel
theorem dX6_takesDigit_28 : decode cX6_takesDigit 28 = .ok (.iconst 4, 1) := by decide +kernel
theorem dX6_takesDigit_29 : decode cX6_takesDigit 29 = .ok (.if_icmp .ne 5, 3) := by decide +kernel
theorem dX6_takesDigit_32 : decode cX6_takesDigit 32 = .ok (.iconst 0, 1) := by decide +kernel
theorem dX6_takesDigit_33 : decode cX6_takesDigit 33 = .ok (.ireturn, 1) := by decide +kernel
theorem dX6_takesDigit_34 : decode cX6_takesDigit 34 = .ok (.aload_n 0, 1) := by decide +kernel
theorem dX6_takesDigit_35 : decode cX6_takesDigit 35 = .ok (.iload_n 2, 1) := by decide +kernel
theorem dX6_takesDigit_36 : decode cX6_takesDigit 36 = .ok (.ifCond .eq 7, 3) := by decide +kernel
theorem dX6_takesDigit_39 : decode cX6_takesDigit 39 = .ok (.iload_n 1, 1) := by decide +kernel
theorem dX6_takesDigit_40 : decode cX6_takesDigit 40 = .ok (.goto 12, 3) := by decide +kernel
theorem dX6_takesDigit_43 : decode cX6_takesDigit 43 = .ok (.aload_n 0, 1) := by decide +kernel
theorem dX6_takesDigit_44 : decode cX6_takesDigit 44 = .ok (.getfield 34, 3) := by decide +kernel
theorem dX6_takesDigit_47 : decode cX6_takesDigit 47 = .ok (.bipush 10, 2) := by decide +kernel
theorem dX6_takesDigit_49 : decode cX6_takesDigit 49 = .ok (.imul, 1) := by decide +kernel
theorem dX6_takesDigit_50 : decode cX6_takesDigit 50 = .ok (.iload_n 1, 1) := by decide +kernel
theorem dX6_takesDigit_51 : decode cX6_takesDigit 51 = .ok (.iadd, 1) := by decide +kernel
theorem dX6_takesDigit_52 : decode cX6_takesDigit 52 = .ok (.putfield 34, 3) := by decide +kernel
theorem dX6_takesDigit_55 : decode cX6_takesDigit 55 = .ok (.aload_n 0, 1) := by decide +kernel
theorem dX6_takesDigit_56 : decode cX6_takesDigit 56 = .ok (.dup, 1) := by decide +kernel
theorem dX6_takesDigit_57 : decode cX6_takesDigit 57 = .ok (.getfield 31, 3) := by decide +kernel
theorem dX6_takesDigit_60 : decode cX6_takesDigit 60 = .ok (.iconst 1, 1) := by decide +kernel
theorem dX6_takesDigit_61 : decode cX6_takesDigit 61 = .ok (.iadd, 1) := by decide +kernel
theorem dX6_takesDigit_62 : decode cX6_takesDigit 62 = .ok (.putfield 31, 3) := by decide +kernel
theorem dX6_takesDigit_65 : decode cX6_takesDigit 65 = .ok (.aload_n 0, 1) := by decide +kernel
theorem dX6_takesDigit_66 : decode cX6_takesDigit 66 = .ok (.getfield 19, 3) := by decide +kernel
theorem dX6_takesDigit_69 : decode cX6_takesDigit 69 = .ok (.aload_n 0, 1) := by decide +kernel
theorem dX6_takesDigit_70 : decode cX6_takesDigit 70 = .ok (.getfield 22, 3) := by decide +kernel
theorem dX6_takesDigit_73 : decode cX6_takesDigit 73 = .ok (.bipush 10, 2) := by decide +kernel
theorem dX6_takesDigit_75 : decode cX6_takesDigit 75 = .ok (.imul, 1) := by decide +kernel
theorem dX6_takesDigit_76 : decode cX6_takesDigit 76 = .ok (.aload_n 0, 1) := by decide +kernel
theorem dX6_takesDigit_77 : decode cX6_takesDigit 77 = .ok (.getfield 25, 3) := by decide +kernel
theorem dX6_takesDigit_80 : decode cX6_takesDigit 80 = .ok (.iadd, 1) := by decide +kernel
theorem dX6_takesDigit_81 : decode cX6_takesDigit 81 = .ok (.aload_n 0, 1) := by decide +kernel
theorem dX6_takesDigit_82 : decode cX6_takesDigit 82 = .ok (.getfield 34, 3) := by decide +kernel
theorem dX6_takesDigit_85 : decode cX6_takesDigit 85 = .ok (.invokestatic 37, 3) := by decide +kernel
theorem dX6_takesDigit_88 : decode cX6_takesDigit 88 = .ok (.iconst 1, 1) := by decide +kernel
theorem dX6_takesDigit_89 : decode cX6_takesDigit 89 = .ok (.ireturn, 1) := by decide +kernel
theorem dX6_takesComma_0 : decode cX6_takesComma 0 = .ok (.aload_n 0, 1) := by decide +kernel
theorem dX6_takesComma_1 : decode cX6_takesComma 1 = .ok (.getfield 31, 3) := by decide +kernel
theorem dX6_takesComma_4 : decode cX6_takesComma 4 = .ok (.ifCond .eq 16, 3) := by decide +kernel
theorem dX6_takesComma_7 : decode cX6_takesComma 7 = .ok (.aload_n 0, 1) := by decide +kernel
theorem dX6_takesComma_8 : decode cX6_takesComma 8 = .ok (.getfield 25, 3) := by decide +kernel
theorem dX6_takesComma_11 : decode cX6_takesComma 11 = .ok (.iconst 1, 1) := by decide +kernel
theorem dX6_takesComma_12 : decode cX6_takesComma 12 = .ok (.iadd, 1) := by decide +kernel
theorem dX6_takesComma_13 : decode cX6_takesComma 13 = .ok (.aload_n 0, 1) := by decide +kernel
theorem dX6_takesComma_14 : decode cX6_takesComma 14 = .ok (.getfield 28, 3) := by decide +kernel
theorem dX6_takesComma_17 : decode cX6_takesComma 17 = .ok (.if_icmp .lt 5, 3) := by decide +kernel
theorem dX6_takesComma_20 : decode cX6_takesComma 20 = .ok (.iconst 0, 1) := by decide +kernel
theorem dX6_takesComma_21 : decode cX6_takesComma 21 = .ok (.ireturn, 1) := by decide +kernel
theorem dX6_takesComma_22 : decode cX6_takesComma 22 = .ok (.aload_n 0, 1) := by decide +kernel
theorem dX6_takesComma_23 : decode cX6_takesComma 23 = .ok (.dup, 1) := by decide +kernel
theorem dX6_takesComma_24 : decode cX6_takesComma 24 = .ok (.getfield 25, 3) := by decide +kernel
theorem dX6_takesComma_27 : decode cX6_takesComma 27 = .ok (.iconst 1, 1) := by decide +kernel
theorem dX6_takesComma_28 : decode cX6_takesComma 28 = .ok (.iadd, 1) := by decide +kernel
theorem dX6_takesComma_29 : decode cX6_takesComma 29 = .ok (.putfield 25, 3) := by decide +kernel
theorem dX6_takesComma_32 : decode cX6_takesComma 32 = .ok (.aload_n 0, 1) := by decide +kernel
theorem dX6_takesComma_33 : decode cX6_takesComma 33 = .ok (.iconst 0, 1) := by decide +kernel
theorem dX6_takesComma_34 : decode cX6_takesComma 34 = .ok (.putfield 31, 3) := by decide +kernel
theorem dX6_takesComma_37 : decode cX6_takesComma 37 = .ok (.iconst 1, 1) := by decide +kernel
theorem dX6_takesComma_38 : decode cX6_takesComma 38 = .ok (.ireturn, 1) := by decide +kernel
theorem dX6_takesSlash_0 : decode cX6_takesSlash 0 = .ok (.aload_n 0, 1) := by decide +kernel
theorem dX6_takesSlash_1 : decode cX6_takesSlash 1 = .ok (.getfield 31, 3) := by decide +kernel
theorem dX6_takesSlash_4 : decode cX6_takesSlash 4 = .ok (.ifCond .eq 21, 3) := by decide +kernel
theorem dX6_takesSlash_7 : decode cX6_takesSlash 7 = .ok (.aload_n 0, 1) := by decide +kernel
theorem dX6_takesSlash_8 : decode cX6_takesSlash 8 = .ok (.getfield 22, 3) := by decide +kernel
theorem dX6_takesSlash_11 : decode cX6_takesSlash 11 = .ok (.iconst 1, 1) := by decide +kernel
theorem dX6_takesSlash_12 : decode cX6_takesSlash 12 = .ok (.iadd, 1) := by decide +kernel
theorem dX6_takesSlash_13 : decode cX6_takesSlash 13 = .ok (.bipush 10, 2) := by decide +kernel
theorem dX6_takesSlash_15 : decode cX6_takesSlash 15 = .ok (.if_icmp .ge 10, 3) := by decide +kernel
theorem dX6_takesSlash_18 : decode cX6_takesSlash 18 = .ok (.aload_n 0, 1) := by decide +kernel
theorem dX6_takesSlash_19 : decode cX6_takesSlash 19 = .ok (.invokevirtual 57, 3) := by decide +kernel
theorem dX6_takesSlash_22 : decode cX6_takesSlash 22 = .ok (.ifCond .ne 5, 3) := by decide +kernel
theorem dX6_takesSlash_25 : decode cX6_takesSlash 25 = .ok (.iconst 0, 1) := by decide +kernel
theorem dX6_takesSlash_26 : decode cX6_takesSlash 26 = .ok (.ireturn, 1) := by decide +kernel
theorem dX6_takesSlash_27 : decode cX6_takesSlash 27 = .ok (.aload_n 0, 1) := by decide +kernel
theorem dX6_takesSlash_28 : decode cX6_takesSlash 28 = .ok (.aload_n 0, 1) := by decide +kernel
theorem dX6_takesSlash_29 : decode cX6_takesSlash 29 = .ok (.getfield 25, 3) := by decide +kernel
theorem dX6_takesSlash_32 : decode cX6_takesSlash 32 = .ok (.iconst 1, 1) := by decide +kernel
theorem dX6_takesSlash_33 : decode cX6_takesSlash 33 = .ok (.iadd, 1) := by decide +kernel
theorem dX6_takesSlash_34 : decode cX6_takesSlash 34 = .ok (.putfield 28, 3) := by decide +kernel
theorem dX6_takesSlash_37 : decode cX6_takesSlash 37 = .ok (.aload_n 0, 1) := by decide +kernel
theorem dX6_takesSlash_38 : decode cX6_takesSlash 38 = .ok (.dup, 1) := by decide +kernel
theorem dX6_takesSlash_39 : decode cX6_takesSlash 39 = .ok (.getfield 22, 3) := by decide +kernel
theorem dX6_takesSlash_42 : decode cX6_takesSlash 42 = .ok (.iconst 1, 1) := by decide +kernel
theorem dX6_takesSlash_43 : decode cX6_takesSlash 43 = .ok (.iadd, 1) := by decide +kernel
theorem dX6_takesSlash_44 : decode cX6_takesSlash 44 = .ok (.putfield 22, 3) := by decide +kernel
theorem dX6_takesSlash_47 : decode cX6_takesSlash 47 = .ok (.aload_n 0, 1) := by decide +kernel
theorem dX6_takesSlash_48 : decode cX6_takesSlash 48 = .ok (.iconst 0, 1) := by decide +kernel
theorem dX6_takesSlash_49 : decode cX6_takesSlash 49 = .ok (.putfield 25, 3) := by decide +kernel
theorem dX6_takesSlash_52 : decode cX6_takesSlash 52 = .ok (.aload_n 0, 1) := by decide +kernel
theorem dX6_takesSlash_53 : decode cX6_takesSlash 53 = .ok (.iconst 0, 1) := by decide +kernel
theorem dX6_takesSlash_54 : decode cX6_takesSlash 54 = .ok (.putfield 31, 3) := by decide +kernel
theorem dX6_takesSlash_57 : decode cX6_takesSlash 57 = .ok (.iconst 1, 1) := by decide +kernel
theorem dX6_takesSlash_58 : decode cX6_takesSlash 58 = .ok (.ireturn, 1) := by decide +kernel
theorem dX6_isRowFull_0 : decode cX6_isRowFull 0 = .ok (.aload_n 0, 1) := by decide +kernel
theorem dX6_isRowFull_1 : decode cX6_isRowFull 1 = .ok (.getfield 22, 3) := by decide +kernel
theorem dX6_isRowFull_4 : decode cX6_isRowFull 4 = .ok (.ifCond .eq 16, 3) := by decide +kernel
theorem dX6_isRowFull_7 : decode cX6_isRowFull 7 = .ok (.aload_n 0, 1) := by decide +kernel
theorem dX6_isRowFull_8 : decode cX6_isRowFull 8 = .ok (.getfield 25, 3) := by decide +kernel
theorem dX6_isRowFull_11 : decode cX6_isRowFull 11 = .ok (.iconst 1, 1) := by decide +kernel
theorem dX6_isRowFull_12 : decode cX6_isRowFull 12 = .ok (.iadd, 1) := by decide +kernel
theorem dX6_isRowFull_13 : decode cX6_isRowFull 13 = .ok (.aload_n 0, 1) := by decide +kernel
theorem dX6_isRowFull_14 : decode cX6_isRowFull 14 = .ok (.getfield 28, 3) := by decide +kernel
theorem dX6_isRowFull_17 : decode cX6_isRowFull 17 = .ok (.if_icmp .ne 7, 3) := by decide +kernel
theorem dX6_isRowFull_20 : decode cX6_isRowFull 20 = .ok (.iconst 1, 1) := by decide +kernel
theorem dX6_isRowFull_21 : decode cX6_isRowFull 21 = .ok (.goto 4, 3) := by decide +kernel
theorem dX6_isRowFull_24 : decode cX6_isRowFull 24 = .ok (.iconst 0, 1) := by decide +kernel
theorem dX6_isRowFull_25 : decode cX6_isRowFull 25 = .ok (.ireturn, 1) := by decide +kernel
theorem dX7_init_0 : decode cX7_init 0 = .ok (.aload_n 0, 1) := by decide +kernel
theorem dX7_init_1 : decode cX7_init 1 = .ok (.invokespecial 1, 3) := by decide +kernel
theorem dX7_init_4 : decode cX7_init 4 = .ok (.aload_n 0, 1) := by decide +kernel
theorem dX7_init_5 : decode cX7_init 5 = .ok (.new 7, 3) := by decide +kernel
theorem dX7_init_8 : decode cX7_init 8 = .ok (.dup, 1) := by decide +kernel
theorem dX7_init_9 : decode cX7_init 9 = .ok (.invokespecial 9, 3) := by decide +kernel
theorem dX7_init_12 : decode cX7_init 12 = .ok (.putfield 10, 3) := by decide +kernel
theorem dX7_init_15 : decode cX7_init 15 = .ok (.aload_n 0, 1) := by decide +kernel
theorem dX7_init_16 : decode cX7_init 16 = .ok (.new 16, 3) := by decide +kernel
theorem dX7_init_19 : decode cX7_init 19 = .ok (.dup, 1) := by decide +kernel
theorem dX7_init_20 : decode cX7_init 20 = .ok (.aload_n 0, 1) := by decide +kernel
theorem dX7_init_21 : decode cX7_init 21 = .ok (.getfield 10, 3) := by decide +kernel
theorem dX7_init_24 : decode cX7_init 24 = .ok (.invokespecial 18, 3) := by decide +kernel
theorem dX7_init_27 : decode cX7_init 27 = .ok (.putfield 21, 3) := by decide +kernel
theorem dX7_init_30 : decode cX7_init 30 = .ok (.aload_n 0, 1) := by decide +kernel
theorem dX7_init_31 : decode cX7_init 31 = .ok (.new 25, 3) := by decide +kernel
theorem dX7_init_34 : decode cX7_init 34 = .ok (.dup, 1) := by decide +kernel
theorem dX7_init_35 : decode cX7_init 35 = .ok (.aload_n 0, 1) := by decide +kernel
theorem dX7_init_36 : decode cX7_init 36 = .ok (.getfield 10, 3) := by decide +kernel
theorem dX7_init_39 : decode cX7_init 39 = .ok (.invokespecial 27, 3) := by decide +kernel
theorem dX7_init_42 : decode cX7_init 42 = .ok (.putfield 28, 3) := by decide +kernel
theorem dX7_init_45 : decode cX7_init 45 = .ok (.aload_n 0, 1) := by decide +kernel
theorem dX7_init_46 : decode cX7_init 46 = .ok (.new 32, 3) := by decide +kernel
theorem dX7_init_49 : decode cX7_init 49 = .ok (.dup, 1) := by decide +kernel
theorem dX7_init_50 : decode cX7_init 50 = .ok (.aload_n 0, 1) := by decide +kernel
theorem dX7_init_51 : decode cX7_init 51 = .ok (.getfield 10, 3) := by decide +kernel
theorem dX7_init_54 : decode cX7_init 54 = .ok (.invokespecial 34, 3) := by decide +kernel
theorem dX7_init_57 : decode cX7_init 57 = .ok (.putfield 35, 3) := by decide +kernel
theorem dX7_init_60 : decode cX7_init 60 = .ok (.aload_n 0, 1) := by decide +kernel
theorem dX7_init_61 : decode cX7_init 61 = .ok (.new 39, 3) := by decide +kernel
theorem dX7_init_64 : decode cX7_init 64 = .ok (.dup, 1) := by decide +kernel
theorem dX7_init_65 : decode cX7_init 65 = .ok (.invokespecial 41, 3) := by decide +kernel
theorem dX7_init_68 : decode cX7_init 68 = .ok (.putfield 42, 3) := by decide +kernel
theorem dX7_init_71 : decode cX7_init 71 = .ok (.aload_n 0, 1) := by decide +kernel
theorem dX7_init_72 : decode cX7_init 72 = .ok (.new 46, 3) := by decide +kernel
theorem dX7_init_75 : decode cX7_init 75 = .ok (.dup, 1) := by decide +kernel
theorem dX7_init_76 : decode cX7_init 76 = .ok (.invokespecial 48, 3) := by decide +kernel
theorem dX7_init_79 : decode cX7_init 79 = .ok (.putfield 49, 3) := by decide +kernel
theorem dX7_init_82 : decode cX7_init 82 = .ok (.aload_n 0, 1) := by decide +kernel
theorem dX7_init_83 : decode cX7_init 83 = .ok (.new 53, 3) := by decide +kernel
theorem dX7_init_86 : decode cX7_init 86 = .ok (.dup, 1) := by decide +kernel
theorem dX7_init_87 : decode cX7_init 87 = .ok (.invokespecial 55, 3) := by decide +kernel
theorem dX7_init_90 : decode cX7_init 90 = .ok (.putfield 56, 3) := by decide +kernel
theorem dX7_init_93 : decode cX7_init 93 = .ok (.aload_n 0, 1) := by decide +kernel
theorem dX7_init_94 : decode cX7_init 94 = .ok (.new 53, 3) := by decide +kernel
theorem dX7_init_97 : decode cX7_init 97 = .ok (.dup, 1) := by decide +kernel
theorem dX7_init_98 : decode cX7_init 98 = .ok (.invokespecial 55, 3) := by decide +kernel
theorem dX7_init_101 : decode cX7_init 101 = .ok (.putfield 60, 3) := by decide +kernel
theorem dX7_init_104 : decode cX7_init 104 = .ok (.return_, 1) := by decide +kernel
theorem dX7_size_0 : decode cX7_size 0 = .ok (.iload_n 1, 1) := by decide +kernel
theorem dX7_size_1 : decode cX7_size 1 = .ok (.iconst 1, 1) := by decide +kernel
theorem dX7_size_2 : decode cX7_size 2 = .ok (.bipush 10, 2) := by decide +kernel
theorem dX7_size_4 : decode cX7_size 4 = .ok (.invokestatic 63, 3) := by decide +kernel
theorem dX7_size_7 : decode cX7_size 7 = .ok (.ifCond .eq 13, 3) := by decide +kernel
theorem dX7_size_10 : decode cX7_size 10 = .ok (.iload_n 2, 1) := by decide +kernel
theorem dX7_size_11 : decode cX7_size 11 = .ok (.iconst 1, 1) := by decide +kernel
theorem dX7_size_12 : decode cX7_size 12 = .ok (.bipush 10, 2) := by decide +kernel
theorem dX7_size_14 : decode cX7_size 14 = .ok (.invokestatic 63, 3) := by decide +kernel
theorem dX7_size_17 : decode cX7_size 17 = .ok (.ifCond .ne 13, 3) := by decide +kernel
theorem dX7_size_20 : decode cX7_size 20 = .ok (.new 67, 3) := by decide +kernel
theorem dX7_size_23 : decode cX7_size 23 = .ok (.dup, 1) := by decide +kernel
theorem dX7_size_24 : decode cX7_size 24 = .ok (.ldc 69, 2) := by decide +kernel
theorem dX7_size_26 : decode cX7_size 26 = .ok (.invokespecial 71, 3) := by decide +kernel
theorem dX7_size_29 : decode cX7_size 29 = .ok (.athrow, 1) := by decide +kernel
theorem dX7_size_30 : decode cX7_size 30 = .ok (.aload_n 0, 1) := by decide +kernel
theorem dX7_size_31 : decode cX7_size 31 = .ok (.getfield 49, 3) := by decide +kernel
theorem dX7_size_34 : decode cX7_size 34 = .ok (.aload_n 0, 1) := by decide +kernel
theorem dX7_size_35 : decode cX7_size 35 = .ok (.getfield 10, 3) := by decide +kernel
theorem dX7_size_38 : decode cX7_size 38 = .ok (.invokevirtual 74, 3) := by decide +kernel
theorem dX7_size_41 : decode cX7_size 41 = .ok (.aload_n 0, 1) := by decide +kernel
theorem dX7_size_42 : decode cX7_size 42 = .ok (.getfield 10, 3) := by decide +kernel
theorem dX7_size_45 : decode cX7_size 45 = .ok (.invokevirtual 77, 3) := by decide +kernel
theorem dX7_size_48 : decode cX7_size 48 = .ok (.istore_n 3, 1) := by decide +kernel
theorem dX7_size_49 : decode cX7_size 49 = .ok (.aload_n 0, 1) := by decide +kernel
theorem dX7_size_50 : decode cX7_size 50 = .ok (.getfield 10, 3) := by decide +kernel
theorem dX7_size_53 : decode cX7_size 53 = .ok (.iload_n 1, 1) := by decide +kernel
theorem dX7_size_54 : decode cX7_size 54 = .ok (.putfield 81, 3) := by decide +kernel
theorem dX7_size_57 : decode cX7_size 57 = .ok (.aload_n 0, 1) := by decide +kernel
theorem dX7_size_58 : decode cX7_size 58 = .ok (.getfield 10, 3) := by decide +kernel
theorem dX7_size_61 : decode cX7_size 61 = .ok (.iload_n 2, 1) := by decide +kernel
theorem dX7_size_62 : decode cX7_size 62 = .ok (.putfield 85, 3) := by decide +kernel
theorem dX7_size_65 : decode cX7_size 65 = .ok (.iload_n 3, 1) := by decide +kernel
theorem dX7_size_66 : decode cX7_size 66 = .ok (.ireturn, 1) := by decide +kernel
theorem dX7_put_0 : decode cX7_put 0 = .ok (.aload_n 0, 1) := by decide +kernel
theorem dX7_put_1 : decode cX7_put 1 = .ok (.getfield 10, 3) := by decide +kernel
theorem dX7_put_4 : decode cX7_put 4 = .ok (.iload_n 1, 1) := by decide +kernel
theorem dX7_put_5 : decode cX7_put 5 = .ok (.iload_n 2, 1) := by decide +kernel
theorem dX7_put_6 : decode cX7_put 6 = .ok (.invokevirtual 88, 3) := by decide +kernel
theorem dX7_put_9 : decode cX7_put 9 = .ok (.ifCond .ne 13, 3) := by decide +kernel
theorem dX7_put_12 : decode cX7_put 12 = .ok (.new 92, 3) := by decide +kernel
theorem dX7_put_15 : decode cX7_put 15 = .ok (.dup, 1) := by decide +kernel
theorem dX7_put_16 : decode cX7_put 16 = .ok (.ldc 94, 2) := by decide +kernel
theorem dX7_put_18 : decode cX7_put 18 = .ok (.invokespecial 96, 3) := by decide +kernel
theorem dX7_put_21 : decode cX7_put 21 = .ok (.athrow, 1) := by decide +kernel
theorem dX7_put_22 : decode cX7_put 22 = .ok (.iload_n 3, 1) := by decide +kernel
theorem dX7_put_23 : decode cX7_put 23 = .ok (.iconst 0, 1) := by decide +kernel
theorem dX7_put_24 : decode cX7_put 24 = .ok (.sipush 9999, 3) := by decide +kernel
theorem dX7_put_27 : decode cX7_put 27 = .ok (.invokestatic 63, 3) := by decide +kernel
theorem dX7_put_30 : decode cX7_put 30 = .ok (.ifCond .ne 13, 3) := by decide +kernel
theorem dX7_put_33 : decode cX7_put 33 = .ok (.new 67, 3) := by decide +kernel
theorem dX7_put_36 : decode cX7_put 36 = .ok (.dup, 1) := by decide +kernel
theorem dX7_put_37 : decode cX7_put 37 = .ok (.ldc 97, 2) := by decide +kernel
theorem dX7_put_39 : decode cX7_put 39 = .ok (.invokespecial 71, 3) := by decide +kernel
theorem dX7_put_42 : decode cX7_put 42 = .ok (.athrow, 1) := by decide +kernel
theorem dX7_put_43 : decode cX7_put 43 = .ok (.aload_n 0, 1) := by decide +kernel
theorem dX7_put_44 : decode cX7_put 44 = .ok (.getfield 49, 3) := by decide +kernel
theorem dX7_put_47 : decode cX7_put 47 = .ok (.aload_n 0, 1) := by decide +kernel
theorem dX7_put_48 : decode cX7_put 48 = .ok (.getfield 10, 3) := by decide +kernel
theorem dX7_put_51 : decode cX7_put 51 = .ok (.invokevirtual 74, 3) := by decide +kernel
theorem dX7_put_54 : decode cX7_put 54 = .ok (.aload_n 0, 1) := by decide +kernel
theorem dX7_put_55 : decode cX7_put 55 = .ok (.getfield 10, 3) := by decide +kernel
theorem dX7_put_58 : decode cX7_put 58 = .ok (.iload_n 1, 1) := by decide +kernel
theorem dX7_put_59 : decode cX7_put 59 = .ok (.iload_n 2, 1) := by decide +kernel
theorem dX7_put_60 : decode cX7_put 60 = .ok (.invokevirtual 99, 3) := by decide +kernel
theorem dX7_put_63 : decode cX7_put 63 = .ok (.istore 4, 2) := by decide +kernel
theorem dX7_put_65 : decode cX7_put 65 = .ok (.aload_n 0, 1) := by decide +kernel
theorem dX7_put_66 : decode cX7_put 66 = .ok (.getfield 10, 3) := by decide +kernel
theorem dX7_put_69 : decode cX7_put 69 = .ok (.iload_n 1, 1) := by decide +kernel
theorem dX7_put_70 : decode cX7_put 70 = .ok (.iload_n 2, 1) := by decide +kernel
theorem dX7_put_71 : decode cX7_put 71 = .ok (.iload_n 3, 1) := by decide +kernel
theorem dX7_put_72 : decode cX7_put 72 = .ok (.invokevirtual 103, 3) := by decide +kernel
theorem dX7_put_75 : decode cX7_put 75 = .ok (.iload 4, 2) := by decide +kernel
theorem dX7_put_77 : decode cX7_put 77 = .ok (.ireturn, 1) := by decide +kernel
theorem dX7_points_0 : decode cX7_points 0 = .ok (.iload_n 1, 1) := by decide +kernel
theorem dX7_points_1 : decode cX7_points 1 = .ok (.iconst 0, 1) := by decide +kernel
theorem dX7_points_2 : decode cX7_points 2 = .ok (.bipush 50, 2) := by decide +kernel
theorem dX7_points_4 : decode cX7_points 4 = .ok (.invokestatic 63, 3) := by decide +kernel
theorem dX7_points_7 : decode cX7_points 7 = .ok (.ifCond .eq 34, 3) := by decide +kernel
theorem dX7_points_10 : decode cX7_points 10 = .ok (.iload_n 2, 1) := by decide +kernel
theorem dX7_points_11 : decode cX7_points 11 = .ok (.iconst 0, 1) := by decide +kernel
theorem dX7_points_12 : decode cX7_points 12 = .ok (.bipush 9, 2) := by decide +kernel
theorem dX7_points_14 : decode cX7_points 14 = .ok (.invokestatic 63, 3) := by decide +kernel
theorem dX7_points_17 : decode cX7_points 17 = .ok (.ifCond .eq 24, 3) := by decide +kernel
theorem dX7_points_20 : decode cX7_points 20 = .ok (.iload_n 3, 1) := by decide +kernel
theorem dX7_points_21 : decode cX7_points 21 = .ok (.iconst 0, 1) := by decide +kernel
theorem dX7_points_22 : decode cX7_points 22 = .ok (.bipush 50, 2) := by decide +kernel
theorem dX7_points_24 : decode cX7_points 24 = .ok (.invokestatic 63, 3) := by decide +kernel
theorem dX7_points_27 : decode cX7_points 27 = .ok (.ifCond .eq 14, 3) := by decide +kernel
theorem dX7_points_30 : decode cX7_points 30 = .ok (.iload 4, 2) := by decide +kernel
theorem dX7_points_32 : decode cX7_points 32 = .ok (.iconst 0, 1) := by decide +kernel
theorem dX7_points_33 : decode cX7_points 33 = .ok (.bipush 9, 2) := by decide +kernel
theorem dX7_points_35 : decode cX7_points 35 = .ok (.invokestatic 63, 3) := by decide +kernel
theorem dX7_points_38 : decode cX7_points 38 = .ok (.ifCond .ne 13, 3) := by decide +kernel
theorem dX7_points_41 : decode cX7_points 41 = .ok (.new 67, 3) := by decide +kernel
theorem dX7_points_44 : decode cX7_points 44 = .ok (.dup, 1) := by decide +kernel
theorem dX7_points_45 : decode cX7_points 45 = .ok (.ldc 107, 2) := by decide +kernel
theorem dX7_points_47 : decode cX7_points 47 = .ok (.invokespecial 71, 3) := by decide +kernel
theorem dX7_points_50 : decode cX7_points 50 = .ok (.athrow, 1) := by decide +kernel
theorem dX7_points_51 : decode cX7_points 51 = .ok (.aload_n 0, 1) := by decide +kernel
theorem dX7_points_52 : decode cX7_points 52 = .ok (.getfield 49, 3) := by decide +kernel
theorem dX7_points_55 : decode cX7_points 55 = .ok (.aload_n 0, 1) := by decide +kernel
theorem dX7_points_56 : decode cX7_points 56 = .ok (.getfield 10, 3) := by decide +kernel
theorem dX7_points_59 : decode cX7_points 59 = .ok (.invokevirtual 74, 3) := by decide +kernel
theorem dX7_points_62 : decode cX7_points 62 = .ok (.iconst 0, 1) := by decide +kernel
theorem dX7_points_63 : decode cX7_points 63 = .ok (.istore 5, 2) := by decide +kernel
theorem dX7_points_65 : decode cX7_points 65 = .ok (.iload 5, 2) := by decide +kernel
theorem dX7_points_67 : decode cX7_points 67 = .ok (.aload_n 0, 1) := by decide +kernel
theorem dX7_points_68 : decode cX7_points 68 = .ok (.getfield 10, 3) := by decide +kernel
theorem dX7_points_71 : decode cX7_points 71 = .ok (.getfield 81, 3) := by decide +kernel
theorem dX7_points_74 : decode cX7_points 74 = .ok (.if_icmp .ge 68, 3) := by decide +kernel
theorem dX7_points_77 : decode cX7_points 77 = .ok (.iconst 0, 1) := by decide +kernel
theorem dX7_points_78 : decode cX7_points 78 = .ok (.istore 6, 2) := by decide +kernel
theorem dX7_points_80 : decode cX7_points 80 = .ok (.iload 6, 2) := by decide +kernel
theorem dX7_points_82 : decode cX7_points 82 = .ok (.aload_n 0, 1) := by decide +kernel
theorem dX7_points_83 : decode cX7_points 83 = .ok (.getfield 10, 3) := by decide +kernel
theorem dX7_points_86 : decode cX7_points 86 = .ok (.getfield 85, 3) := by decide +kernel
theorem dX7_points_89 : decode cX7_points 89 = .ok (.if_icmp .ge 47, 3) := by decide +kernel
theorem dX7_points_92 : decode cX7_points 92 = .ok (.iload_n 1, 1) := by decide +kernel
theorem dX7_points_93 : decode cX7_points 93 = .ok (.iload_n 2, 1) := by decide +kernel
theorem dX7_points_94 : decode cX7_points 94 = .ok (.iload 5, 2) := by decide +kernel
theorem dX7_points_96 : decode cX7_points 96 = .ok (.imul, 1) := by decide +kernel
theorem dX7_points_97 : decode cX7_points 97 = .ok (.iadd, 1) := by decide +kernel
theorem dX7_points_98 : decode cX7_points 98 = .ok (.iload_n 3, 1) := by decide +kernel
theorem dX7_points_99 : decode cX7_points 99 = .ok (.iload 4, 2) := by decide +kernel
theorem dX7_points_101 : decode cX7_points 101 = .ok (.iload 6, 2) := by decide +kernel
theorem dX7_points_103 : decode cX7_points 103 = .ok (.imul, 1) := by decide +kernel
theorem dX7_points_104 : decode cX7_points 104 = .ok (.iadd, 1) := by decide +kernel
theorem dX7_points_105 : decode cX7_points 105 = .ok (.isub, 1) := by decide +kernel
theorem dX7_points_106 : decode cX7_points 106 = .ok (.istore 7, 2) := by decide +kernel
theorem dX7_points_108 : decode cX7_points 108 = .ok (.aload_n 0, 1) := by decide +kernel
theorem dX7_points_109 : decode cX7_points 109 = .ok (.getfield 10, 3) := by decide +kernel
theorem dX7_points_112 : decode cX7_points 112 = .ok (.iload 5, 2) := by decide +kernel
theorem dX7_points_114 : decode cX7_points 114 = .ok (.iload 6, 2) := by decide +kernel
theorem dX7_points_116 : decode cX7_points 116 = .ok (.iload 7, 2) := by decide +kernel
theorem dX7_points_118 : decode cX7_points 118 = .ok (.iload 7, 2) := by decide +kernel
theorem dX7_points_120 : decode cX7_points 120 = .ok (.imul, 1) := by decide +kernel
theorem dX7_points_121 : decode cX7_points 121 = .ok (.sipush 9999, 3) := by decide +kernel
theorem dX7_points_124 : decode cX7_points 124 = .ok (.invokestatic 109, 3) := by decide +kernel
theorem dX7_points_127 : decode cX7_points 127 = .ok (.invokevirtual 103, 3) := by decide +kernel
theorem dX7_points_130 : decode cX7_points 130 = .ok (.iinc 6 1, 3) := by decide +kernel
theorem dX7_points_133 : decode cX7_points 133 = .ok (.goto (-53), 3) := by decide +kernel
theorem dX7_points_136 : decode cX7_points 136 = .ok (.iinc 5 1, 3) := by decide +kernel
theorem dX7_points_139 : decode cX7_points 139 = .ok (.goto (-74), 3) := by decide +kernel
theorem dX7_points_142 : decode cX7_points 142 = .ok (.aload_n 0, 1) := by decide +kernel
theorem dX7_points_143 : decode cX7_points 143 = .ok (.getfield 21, 3) := by decide +kernel
theorem dX7_points_146 : decode cX7_points 146 = .ok (.invokevirtual 114, 3) := by decide +kernel
theorem dX7_points_149 : decode cX7_points 149 = .ok (.ifCond .eq 7, 3) := by decide +kernel
theorem dX7_points_152 : decode cX7_points 152 = .ok (.iconst 1, 1) := by decide +kernel
theorem dX7_points_153 : decode cX7_points 153 = .ok (.goto 4, 3) := by decide +kernel
theorem dX7_points_156 : decode cX7_points 156 = .ok (.iconst 0, 1) := by decide +kernel
theorem dX7_points_157 : decode cX7_points 157 = .ok (.ireturn, 1) := by decide +kernel
theorem dX7_mend_0 : decode cX7_mend 0 = .ok (.aload_n 0, 1) := by decide +kernel
theorem dX7_mend_1 : decode cX7_mend 1 = .ok (.getfield 49, 3) := by decide +kernel
theorem dX7_mend_4 : decode cX7_mend 4 = .ok (.aload_n 0, 1) := by decide +kernel
theorem dX7_mend_5 : decode cX7_mend 5 = .ok (.getfield 10, 3) := by decide +kernel
theorem dX7_mend_8 : decode cX7_mend 8 = .ok (.invokevirtual 74, 3) := by decide +kernel
theorem dX7_mend_11 : decode cX7_mend 11 = .ok (.aload_n 0, 1) := by decide +kernel
theorem dX7_mend_12 : decode cX7_mend 12 = .ok (.getfield 21, 3) := by decide +kernel
theorem dX7_mend_15 : decode cX7_mend 15 = .ok (.invokevirtual 118, 3) := by decide +kernel
theorem dX7_mend_18 : decode cX7_mend 18 = .ok (.aload_n 0, 1) := by decide +kernel
theorem dX7_mend_19 : decode cX7_mend 19 = .ok (.getfield 21, 3) := by decide +kernel
theorem dX7_mend_22 : decode cX7_mend 22 = .ok (.getfield 121, 3) := by decide +kernel
theorem dX7_mend_25 : decode cX7_mend 25 = .ok (.ifCond .ne 5, 3) := by decide +kernel
theorem dX7_mend_28 : decode cX7_mend 28 = .ok (.iconst (-1), 1) := by decide +kernel
theorem dX7_mend_29 : decode cX7_mend 29 = .ok (.ireturn, 1) := by decide +kernel
theorem dX7_mend_30 : decode cX7_mend 30 = .ok (.aload_n 0, 1) := by decide +kernel
theorem dX7_mend_31 : decode cX7_mend 31 = .ok (.getfield 10, 3) := by decide +kernel
theorem dX7_mend_34 : decode cX7_mend 34 = .ok (.aload_n 0, 1) := by decide +kernel
theorem dX7_mend_35 : decode cX7_mend 35 = .ok (.getfield 21, 3) := by decide +kernel
theorem dX7_mend_38 : decode cX7_mend 38 = .ok (.getfield 124, 3) := by decide +kernel
theorem dX7_mend_41 : decode cX7_mend 41 = .ok (.iconst 1, 1) := by decide +kernel
theorem dX7_mend_42 : decode cX7_mend 42 = .ok (.iadd, 1) := by decide +kernel
theorem dX7_mend_43 : decode cX7_mend 43 = .ok (.aload_n 0, 1) := by decide +kernel
theorem dX7_mend_44 : decode cX7_mend 44 = .ok (.getfield 21, 3) := by decide +kernel
theorem dX7_mend_47 : decode cX7_mend 47 = .ok (.getfield 127, 3) := by decide +kernel
theorem dX7_mend_50 : decode cX7_mend 50 = .ok (.invokevirtual 99, 3) := by decide +kernel
theorem dX7_mend_53 : decode cX7_mend 53 = .ok (.iconst 1, 1) := by decide +kernel
theorem dX7_mend_54 : decode cX7_mend 54 = .ok (.iadd, 1) := by decide +kernel
theorem dX7_mend_55 : decode cX7_mend 55 = .ok (.istore_n 1, 1) := by decide +kernel
theorem dX7_mend_56 : decode cX7_mend 56 = .ok (.iload_n 1, 1) := by decide +kernel
theorem dX7_mend_57 : decode cX7_mend 57 = .ok (.sipush 9999, 3) := by decide +kernel
theorem dX7_mend_60 : decode cX7_mend 60 = .ok (.if_icmp .le 5, 3) := by decide +kernel
theorem dX7_mend_63 : decode cX7_mend 63 = .ok (.iconst (-1), 1) := by decide +kernel
theorem dX7_mend_64 : decode cX7_mend 64 = .ok (.ireturn, 1) := by decide +kernel
theorem dX7_mend_65 : decode cX7_mend 65 = .ok (.aload_n 0, 1) := by decide +kernel
theorem dX7_mend_66 : decode cX7_mend 66 = .ok (.getfield 10, 3) := by decide +kernel
theorem dX7_mend_69 : decode cX7_mend 69 = .ok (.aload_n 0, 1) := by decide +kernel
theorem dX7_mend_70 : decode cX7_mend 70 = .ok (.getfield 21, 3) := by decide +kernel
theorem dX7_mend_73 : decode cX7_mend 73 = .ok (.getfield 124, 3) := by decide +kernel
theorem dX7_mend_76 : decode cX7_mend 76 = .ok (.iconst 1, 1) := by decide +kernel
theorem dX7_mend_77 : decode cX7_mend 77 = .ok (.iadd, 1) := by decide +kernel
theorem dX7_mend_78 : decode cX7_mend 78 = .ok (.aload_n 0, 1) := by decide +kernel
theorem dX7_mend_79 : decode cX7_mend 79 = .ok (.getfield 21, 3) := by decide +kernel
theorem dX7_mend_82 : decode cX7_mend 82 = .ok (.getfield 130, 3) := by decide +kernel
theorem dX7_mend_85 : decode cX7_mend 85 = .ok (.iload_n 1, 1) := by decide +kernel
theorem dX7_mend_86 : decode cX7_mend 86 = .ok (.invokevirtual 103, 3) := by decide +kernel
theorem dX7_mend_89 : decode cX7_mend 89 = .ok (.aload_n 0, 1) := by decide +kernel
theorem dX7_mend_90 : decode cX7_mend 90 = .ok (.getfield 10, 3) := by decide +kernel
theorem dX7_mend_93 : decode cX7_mend 93 = .ok (.dup, 1) := by decide +kernel
theorem dX7_mend_94 : decode cX7_mend 94 = .ok (.getfield 133, 3) := by decide +kernel
theorem dX7_mend_97 : decode cX7_mend 97 = .ok (.iconst 1, 1) := by decide +kernel
theorem dX7_mend_98 : decode cX7_mend 98 = .ok (.iadd, 1) := by decide +kernel
theorem dX7_mend_99 : decode cX7_mend 99 = .ok (.putfield 133, 3) := by decide +kernel
theorem dX7_mend_102 : decode cX7_mend 102 = .ok (.aload_n 0, 1) := by decide +kernel
theorem dX7_mend_103 : decode cX7_mend 103 = .ok (.getfield 21, 3) := by decide +kernel
theorem dX7_mend_106 : decode cX7_mend 106 = .ok (.getfield 124, 3) := by decide +kernel
theorem dX7_mend_109 : decode cX7_mend 109 = .ok (.ireturn, 1) := by decide +kernel
theorem dX7_find_0 : decode cX7_find 0 = .ok (.iload_n 1, 1) := by decide +kernel
theorem dX7_find_1 : decode cX7_find 1 = .ok (.invokestatic 136, 3) := by decide +kernel
theorem dX7_find_4 : decode cX7_find 4 = .ok (.ifCond .ne 13, 3) := by decide +kernel
theorem dX7_find_7 : decode cX7_find 7 = .ok (.new 67, 3) := by decide +kernel
theorem dX7_find_10 : decode cX7_find 10 = .ok (.dup, 1) := by decide +kernel
theorem dX7_find_11 : decode cX7_find 11 = .ok (.ldc 140, 2) := by decide +kernel
theorem dX7_find_13 : decode cX7_find 13 = .ok (.invokespecial 71, 3) := by decide +kernel
theorem dX7_find_16 : decode cX7_find 16 = .ok (.athrow, 1) := by decide +kernel
theorem dX7_find_17 : decode cX7_find 17 = .ok (.aload_n 0, 1) := by decide +kernel
theorem dX7_find_18 : decode cX7_find 18 = .ok (.iload_n 1, 1) := by decide +kernel
theorem dX7_find_19 : decode cX7_find 19 = .ok (.invokevirtual 142, 3) := by decide +kernel
theorem dX7_find_22 : decode cX7_find 22 = .ok (.ifCond .ne 13, 3) := by decide +kernel
theorem dX7_find_25 : decode cX7_find 25 = .ok (.new 145, 3) := by decide +kernel
theorem dX7_find_28 : decode cX7_find 28 = .ok (.dup, 1) := by decide +kernel
theorem dX7_find_29 : decode cX7_find 29 = .ok (.ldc 147, 2) := by decide +kernel
theorem dX7_find_31 : decode cX7_find 31 = .ok (.invokespecial 149, 3) := by decide +kernel
theorem dX7_find_34 : decode cX7_find 34 = .ok (.athrow, 1) := by decide +kernel
theorem dX7_find_35 : decode cX7_find 35 = .ok (.aload_n 0, 1) := by decide +kernel
theorem dX7_find_36 : decode cX7_find 36 = .ok (.getfield 49, 3) := by decide +kernel
theorem dX7_find_39 : decode cX7_find 39 = .ok (.aload_n 0, 1) := by decide +kernel
theorem dX7_find_40 : decode cX7_find 40 = .ok (.getfield 10, 3) := by decide +kernel
theorem dX7_find_43 : decode cX7_find 43 = .ok (.invokevirtual 74, 3) := by decide +kernel
theorem dX7_find_46 : decode cX7_find 46 = .ok (.aload_n 0, 1) := by decide +kernel
theorem dX7_find_47 : decode cX7_find 47 = .ok (.getfield 28, 3) := by decide +kernel
theorem dX7_find_50 : decode cX7_find 50 = .ok (.iload_n 1, 1) := by decide +kernel
theorem dX7_find_51 : decode cX7_find 51 = .ok (.invokevirtual 150, 3) := by decide +kernel
theorem dX7_find_54 : decode cX7_find 54 = .ok (.aload_n 0, 1) := by decide +kernel
theorem dX7_find_55 : decode cX7_find 55 = .ok (.getfield 28, 3) := by decide +kernel
theorem dX7_find_58 : decode cX7_find 58 = .ok (.iload_n 1, 1) := by decide +kernel
theorem dX7_find_59 : decode cX7_find 59 = .ok (.invokevirtual 154, 3) := by decide +kernel
theorem dX7_find_62 : decode cX7_find 62 = .ok (.istore_n 2, 1) := by decide +kernel
theorem dX7_find_63 : decode cX7_find 63 = .ok (.aload_n 0, 1) := by decide +kernel
theorem dX7_find_64 : decode cX7_find 64 = .ok (.getfield 10, 3) := by decide +kernel
theorem dX7_find_67 : decode cX7_find 67 = .ok (.dup, 1) := by decide +kernel
theorem dX7_find_68 : decode cX7_find 68 = .ok (.getfield 158, 3) := by decide +kernel
theorem dX7_find_71 : decode cX7_find 71 = .ok (.iload_n 2, 1) := by decide +kernel
theorem dX7_find_72 : decode cX7_find 72 = .ok (.iadd, 1) := by decide +kernel
theorem dX7_find_73 : decode cX7_find 73 = .ok (.putfield 158, 3) := by decide +kernel
theorem dX7_find_76 : decode cX7_find 76 = .ok (.aload_n 0, 1) := by decide +kernel
theorem dX7_find_77 : decode cX7_find 77 = .ok (.getfield 10, 3) := by decide +kernel
theorem dX7_find_80 : decode cX7_find 80 = .ok (.dup, 1) := by decide +kernel
theorem dX7_find_81 : decode cX7_find 81 = .ok (.getfield 161, 3) := by decide +kernel
theorem dX7_find_84 : decode cX7_find 84 = .ok (.iconst 1, 1) := by decide +kernel
theorem dX7_find_85 : decode cX7_find 85 = .ok (.iadd, 1) := by decide +kernel
theorem dX7_find_86 : decode cX7_find 86 = .ok (.putfield 161, 3) := by decide +kernel
theorem dX7_find_89 : decode cX7_find 89 = .ok (.iload_n 2, 1) := by decide +kernel
theorem dX7_find_90 : decode cX7_find 90 = .ok (.ireturn, 1) := by decide +kernel
theorem dX7_weigh_0 : decode cX7_weigh 0 = .ok (.iload_n 1, 1) := by decide +kernel
theorem dX7_weigh_1 : decode cX7_weigh 1 = .ok (.iconst 1, 1) := by decide +kernel
theorem dX7_weigh_2 : decode cX7_weigh 2 = .ok (.bipush 99, 2) := by decide +kernel
theorem dX7_weigh_4 : decode cX7_weigh 4 = .ok (.invokestatic 63, 3) := by decide +kernel
theorem dX7_weigh_7 : decode cX7_weigh 7 = .ok (.ifCond .ne 13, 3) := by decide +kernel
theorem dX7_weigh_10 : decode cX7_weigh 10 = .ok (.new 67, 3) := by decide +kernel
theorem dX7_weigh_13 : decode cX7_weigh 13 = .ok (.dup, 1) := by decide +kernel
theorem dX7_weigh_14 : decode cX7_weigh 14 = .ok (.ldc 164, 2) := by decide +kernel
theorem dX7_weigh_16 : decode cX7_weigh 16 = .ok (.invokespecial 71, 3) := by decide +kernel
theorem dX7_weigh_19 : decode cX7_weigh 19 = .ok (.athrow, 1) := by decide +kernel
theorem dX7_weigh_20 : decode cX7_weigh 20 = .ok (.aload_n 0, 1) := by decide +kernel
theorem dX7_weigh_21 : decode cX7_weigh 21 = .ok (.getfield 10, 3) := by decide +kernel
theorem dX7_weigh_24 : decode cX7_weigh 24 = .ok (.getfield 166, 3) := by decide +kernel
theorem dX7_weigh_27 : decode cX7_weigh 27 = .ok (.bipush 10, 2) := by decide +kernel
theorem dX7_weigh_29 : decode cX7_weigh 29 = .ok (.if_icmp .lt 13, 3) := by decide +kernel
theorem dX7_weigh_32 : decode cX7_weigh 32 = .ok (.new 145, 3) := by decide +kernel
theorem dX7_weigh_35 : decode cX7_weigh 35 = .ok (.dup, 1) := by decide +kernel
theorem dX7_weigh_36 : decode cX7_weigh 36 = .ok (.ldc 169, 2) := by decide +kernel
theorem dX7_weigh_38 : decode cX7_weigh 38 = .ok (.invokespecial 149, 3) := by decide +kernel
theorem dX7_weigh_41 : decode cX7_weigh 41 = .ok (.athrow, 1) := by decide +kernel
theorem dX7_weigh_42 : decode cX7_weigh 42 = .ok (.aload_n 0, 1) := by decide +kernel
theorem dX7_weigh_43 : decode cX7_weigh 43 = .ok (.getfield 49, 3) := by decide +kernel
theorem dX7_weigh_46 : decode cX7_weigh 46 = .ok (.aload_n 0, 1) := by decide +kernel
theorem dX7_weigh_47 : decode cX7_weigh 47 = .ok (.getfield 10, 3) := by decide +kernel
theorem dX7_weigh_50 : decode cX7_weigh 50 = .ok (.invokevirtual 74, 3) := by decide +kernel
theorem dX7_weigh_53 : decode cX7_weigh 53 = .ok (.aload_n 0, 1) := by decide +kernel
theorem dX7_weigh_54 : decode cX7_weigh 54 = .ok (.getfield 10, 3) := by decide +kernel
theorem dX7_weigh_57 : decode cX7_weigh 57 = .ok (.iload_n 1, 1) := by decide +kernel
theorem dX7_weigh_58 : decode cX7_weigh 58 = .ok (.invokevirtual 171, 3) := by decide +kernel
theorem dX7_weigh_61 : decode cX7_weigh 61 = .ok (.aload_n 0, 1) := by decide +kernel
theorem dX7_weigh_62 : decode cX7_weigh 62 = .ok (.getfield 10, 3) := by decide +kernel
theorem dX7_weigh_65 : decode cX7_weigh 65 = .ok (.getfield 166, 3) := by decide +kernel
theorem dX7_weigh_68 : decode cX7_weigh 68 = .ok (.ireturn, 1) := by decide +kernel
theorem dX7_unweigh_0 : decode cX7_unweigh 0 = .ok (.aload_n 0, 1) := by decide +kernel
theorem dX7_unweigh_1 : decode cX7_unweigh 1 = .ok (.getfield 10, 3) := by decide +kernel
theorem dX7_unweigh_4 : decode cX7_unweigh 4 = .ok (.getfield 166, 3) := by decide +kernel
theorem dX7_unweigh_7 : decode cX7_unweigh 7 = .ok (.iconst 1, 1) := by decide +kernel
theorem dX7_unweigh_8 : decode cX7_unweigh 8 = .ok (.if_icmp .gt 13, 3) := by decide +kernel
theorem dX7_unweigh_11 : decode cX7_unweigh 11 = .ok (.new 145, 3) := by decide +kernel
theorem dX7_unweigh_14 : decode cX7_unweigh 14 = .ok (.dup, 1) := by decide +kernel
theorem dX7_unweigh_15 : decode cX7_unweigh 15 = .ok (.ldc 174, 2) := by decide +kernel
theorem dX7_unweigh_17 : decode cX7_unweigh 17 = .ok (.invokespecial 149, 3) := by decide +kernel
theorem dX7_unweigh_20 : decode cX7_unweigh 20 = .ok (.athrow, 1) := by decide +kernel
theorem dX7_unweigh_21 : decode cX7_unweigh 21 = .ok (.aload_n 0, 1) := by decide +kernel
theorem dX7_unweigh_22 : decode cX7_unweigh 22 = .ok (.getfield 49, 3) := by decide +kernel
theorem dX7_unweigh_25 : decode cX7_unweigh 25 = .ok (.aload_n 0, 1) := by decide +kernel
theorem dX7_unweigh_26 : decode cX7_unweigh 26 = .ok (.getfield 10, 3) := by decide +kernel
theorem dX7_unweigh_29 : decode cX7_unweigh 29 = .ok (.invokevirtual 74, 3) := by decide +kernel
theorem dX7_unweigh_32 : decode cX7_unweigh 32 = .ok (.aload_n 0, 1) := by decide +kernel
theorem dX7_unweigh_33 : decode cX7_unweigh 33 = .ok (.getfield 10, 3) := by decide +kernel
theorem dX7_unweigh_36 : decode cX7_unweigh 36 = .ok (.dup, 1) := by decide +kernel
theorem dX7_unweigh_37 : decode cX7_unweigh 37 = .ok (.getfield 166, 3) := by decide +kernel
theorem dX7_unweigh_40 : decode cX7_unweigh 40 = .ok (.iconst 1, 1) := by decide +kernel
theorem dX7_unweigh_41 : decode cX7_unweigh 41 = .ok (.isub, 1) := by decide +kernel
theorem dX7_unweigh_42 : decode cX7_unweigh 42 = .ok (.putfield 166, 3) := by decide +kernel
theorem dX7_unweigh_45 : decode cX7_unweigh 45 = .ok (.aload_n 0, 1) := by decide +kernel
theorem dX7_unweigh_46 : decode cX7_unweigh 46 = .ok (.getfield 10, 3) := by decide +kernel
theorem dX7_unweigh_49 : decode cX7_unweigh 49 = .ok (.aload_n 0, 1) := by decide +kernel
theorem dX7_unweigh_50 : decode cX7_unweigh 50 = .ok (.getfield 10, 3) := by decide +kernel
theorem dX7_unweigh_53 : decode cX7_unweigh 53 = .ok (.getfield 166, 3) := by decide +kernel
theorem dX7_unweigh_56 : decode cX7_unweigh 56 = .ok (.invokevirtual 176, 3) := by decide +kernel
theorem dX7_unweigh_59 : decode cX7_unweigh 59 = .ok (.ireturn, 1) := by decide +kernel
theorem dX7_append_0 : decode cX7_append 0 = .ok (.iload_n 1, 1) := by decide +kernel
theorem dX7_append_1 : decode cX7_append 1 = .ok (.bipush 33, 2) := by decide +kernel
theorem dX7_append_3 : decode cX7_append 3 = .ok (.bipush 126, 2) := by decide +kernel
theorem dX7_append_5 : decode cX7_append 5 = .ok (.invokestatic 63, 3) := by decide +kernel
theorem dX7_append_8 : decode cX7_append 8 = .ok (.ifCond .ne 13, 3) := by decide +kernel
theorem dX7_append_11 : decode cX7_append 11 = .ok (.new 67, 3) := by decide +kernel
theorem dX7_append_14 : decode cX7_append 14 = .ok (.dup, 1) := by decide +kernel
theorem dX7_append_15 : decode cX7_append 15 = .ok (.ldc 179, 2) := by decide +kernel
theorem dX7_append_17 : decode cX7_append 17 = .ok (.invokespecial 71, 3) := by decide +kernel
theorem dX7_append_20 : decode cX7_append 20 = .ok (.athrow, 1) := by decide +kernel
theorem dX7_append_21 : decode cX7_append 21 = .ok (.aload_n 0, 1) := by decide +kernel
theorem dX7_append_22 : decode cX7_append 22 = .ok (.getfield 42, 3) := by decide +kernel
theorem dX7_append_25 : decode cX7_append 25 = .ok (.getfield 181, 3) := by decide +kernel
theorem dX7_append_28 : decode cX7_append 28 = .ok (.bipush 60, 2) := by decide +kernel
theorem dX7_append_30 : decode cX7_append 30 = .ok (.if_icmp .lt 13, 3) := by decide +kernel
theorem dX7_append_33 : decode cX7_append 33 = .ok (.new 145, 3) := by decide +kernel
theorem dX7_append_36 : decode cX7_append 36 = .ok (.dup, 1) := by decide +kernel
theorem dX7_append_37 : decode cX7_append 37 = .ok (.ldc 184, 2) := by decide +kernel
theorem dX7_append_39 : decode cX7_append 39 = .ok (.invokespecial 149, 3) := by decide +kernel
theorem dX7_append_42 : decode cX7_append 42 = .ok (.athrow, 1) := by decide +kernel
theorem dX7_append_43 : decode cX7_append 43 = .ok (.aload_n 0, 1) := by decide +kernel
theorem dX7_append_44 : decode cX7_append 44 = .ok (.getfield 42, 3) := by decide +kernel
theorem dX7_append_47 : decode cX7_append 47 = .ok (.iload_n 1, 1) := by decide +kernel
theorem dX7_append_48 : decode cX7_append 48 = .ok (.invokevirtual 186, 3) := by decide +kernel
theorem dX7_append_51 : decode cX7_append 51 = .ok (.aload_n 0, 1) := by decide +kernel
theorem dX7_append_52 : decode cX7_append 52 = .ok (.getfield 42, 3) := by decide +kernel
theorem dX7_append_55 : decode cX7_append 55 = .ok (.getfield 181, 3) := by decide +kernel
theorem dX7_append_58 : decode cX7_append 58 = .ok (.ireturn, 1) := by decide +kernel
theorem dX7_clearBuffer_0 : decode cX7_clearBuffer 0 = .ok (.aload_n 0, 1) := by decide +kernel
theorem dX7_clearBuffer_1 : decode cX7_clearBuffer 1 = .ok (.getfield 42, 3) := by decide +kernel
theorem dX7_clearBuffer_4 : decode cX7_clearBuffer 4 = .ok (.getfield 181, 3) := by decide +kernel
theorem dX7_clearBuffer_7 : decode cX7_clearBuffer 7 = .ok (.istore_n 1, 1) := by decide +kernel
theorem dX7_clearBuffer_8 : decode cX7_clearBuffer 8 = .ok (.aload_n 0, 1) := by decide +kernel
theorem dX7_clearBuffer_9 : decode cX7_clearBuffer 9 = .ok (.getfield 42, 3) := by decide +kernel
theorem dX7_clearBuffer_12 : decode cX7_clearBuffer 12 = .ok (.invokevirtual 189, 3) := by decide +kernel
theorem dX7_clearBuffer_15 : decode cX7_clearBuffer 15 = .ok (.iload_n 1, 1) := by decide +kernel
theorem dX7_clearBuffer_16 : decode cX7_clearBuffer 16 = .ok (.ireturn, 1) := by decide +kernel
theorem dX7_firstError_0 : decode cX7_firstError 0 = .ok (.aload_n 0, 1) := by decide +kernel
theorem dX7_firstError_1 : decode cX7_firstError 1 = .ok (.getfield 42, 3) := by decide +kernel
theorem dX7_firstError_4 : decode cX7_firstError 4 = .ok (.invokevirtual 192, 3) := by decide +kernel
theorem dX7_firstError_7 : decode cX7_firstError 7 = .ok (.ireturn, 1) := by decide +kernel
theorem dX7_load_0 : decode cX7_load 0 = .ok (.aload_n 0, 1) := by decide +kernel
theorem dX7_load_1 : decode cX7_load 1 = .ok (.getfield 42, 3) := by decide +kernel
theorem dX7_load_4 : decode cX7_load 4 = .ok (.invokevirtual 195, 3) := by decide +kernel
theorem dX7_load_7 : decode cX7_load 7 = .ok (.ifCond .ne 13, 3) := by decide +kernel
theorem dX7_load_10 : decode cX7_load 10 = .ok (.new 67, 3) := by decide +kernel
theorem dX7_load_13 : decode cX7_load 13 = .ok (.dup, 1) := by decide +kernel
theorem dX7_load_14 : decode cX7_load 14 = .ok (.ldc 198, 2) := by decide +kernel
theorem dX7_load_16 : decode cX7_load 16 = .ok (.invokespecial 71, 3) := by decide +kernel
theorem dX7_load_19 : decode cX7_load 19 = .ok (.athrow, 1) := by decide +kernel
theorem dX7_load_20 : decode cX7_load 20 = .ok (.aload_n 0, 1) := by decide +kernel
theorem dX7_load_21 : decode cX7_load 21 = .ok (.getfield 49, 3) := by decide +kernel
theorem dX7_load_24 : decode cX7_load 24 = .ok (.aload_n 0, 1) := by decide +kernel
theorem dX7_load_25 : decode cX7_load 25 = .ok (.getfield 10, 3) := by decide +kernel
theorem dX7_load_28 : decode cX7_load 28 = .ok (.invokevirtual 74, 3) := by decide +kernel
theorem dX7_load_31 : decode cX7_load 31 = .ok (.aload_n 0, 1) := by decide +kernel
theorem dX7_load_32 : decode cX7_load 32 = .ok (.getfield 10, 3) := by decide +kernel
theorem dX7_load_35 : decode cX7_load 35 = .ok (.aload_n 0, 1) := by decide +kernel
theorem dX7_load_36 : decode cX7_load 36 = .ok (.getfield 42, 3) := by decide +kernel
theorem dX7_load_39 : decode cX7_load 39 = .ok (.invokevirtual 200, 3) := by decide +kernel
theorem dX7_load_42 : decode cX7_load 42 = .ok (.putfield 81, 3) := by decide +kernel
theorem dX7_load_45 : decode cX7_load 45 = .ok (.aload_n 0, 1) := by decide +kernel
theorem dX7_load_46 : decode cX7_load 46 = .ok (.getfield 10, 3) := by decide +kernel
theorem dX7_load_49 : decode cX7_load 49 = .ok (.aload_n 0, 1) := by decide +kernel
theorem dX7_load_50 : decode cX7_load 50 = .ok (.getfield 42, 3) := by decide +kernel
theorem dX7_load_53 : decode cX7_load 53 = .ok (.invokevirtual 203, 3) := by decide +kernel
theorem dX7_load_56 : decode cX7_load 56 = .ok (.putfield 85, 3) := by decide +kernel
theorem dX7_load_59 : decode cX7_load 59 = .ok (.iconst 0, 1) := by decide +kernel
theorem dX7_load_60 : decode cX7_load 60 = .ok (.istore_n 1, 1) := by decide +kernel
theorem dX7_load_61 : decode cX7_load 61 = .ok (.iload_n 1, 1) := by decide +kernel
theorem dX7_load_62 : decode cX7_load 62 = .ok (.aload_n 0, 1) := by decide +kernel
theorem dX7_load_63 : decode cX7_load 63 = .ok (.getfield 10, 3) := by decide +kernel
theorem dX7_load_66 : decode cX7_load 66 = .ok (.getfield 81, 3) := by decide +kernel
theorem dX7_load_69 : decode cX7_load 69 = .ok (.if_icmp .ge 46, 3) := by decide +kernel
theorem dX7_load_72 : decode cX7_load 72 = .ok (.iconst 0, 1) := by decide +kernel
theorem dX7_load_73 : decode cX7_load 73 = .ok (.istore_n 2, 1) := by decide +kernel
theorem dX7_load_74 : decode cX7_load 74 = .ok (.iload_n 2, 1) := by decide +kernel
theorem dX7_load_75 : decode cX7_load 75 = .ok (.aload_n 0, 1) := by decide +kernel
theorem dX7_load_76 : decode cX7_load 76 = .ok (.getfield 10, 3) := by decide +kernel
theorem dX7_load_79 : decode cX7_load 79 = .ok (.getfield 85, 3) := by decide +kernel
theorem dX7_load_82 : decode cX7_load 82 = .ok (.if_icmp .ge 27, 3) := by decide +kernel
theorem dX7_load_85 : decode cX7_load 85 = .ok (.aload_n 0, 1) := by decide +kernel
theorem dX7_load_86 : decode cX7_load 86 = .ok (.getfield 10, 3) := by decide +kernel
theorem dX7_load_89 : decode cX7_load 89 = .ok (.iload_n 1, 1) := by decide +kernel
theorem dX7_load_90 : decode cX7_load 90 = .ok (.iload_n 2, 1) := by decide +kernel
theorem dX7_load_91 : decode cX7_load 91 = .ok (.aload_n 0, 1) := by decide +kernel
theorem dX7_load_92 : decode cX7_load 92 = .ok (.getfield 42, 3) := by decide +kernel
theorem dX7_load_95 : decode cX7_load 95 = .ok (.iload_n 1, 1) := by decide +kernel
theorem dX7_load_96 : decode cX7_load 96 = .ok (.iload_n 2, 1) := by decide +kernel
theorem dX7_load_97 : decode cX7_load 97 = .ok (.invokevirtual 206, 3) := by decide +kernel
theorem dX7_load_100 : decode cX7_load 100 = .ok (.invokevirtual 103, 3) := by decide +kernel
theorem dX7_load_103 : decode cX7_load 103 = .ok (.iinc 2 1, 3) := by decide +kernel
theorem dX7_load_106 : decode cX7_load 106 = .ok (.goto (-32), 3) := by decide +kernel
theorem dX7_load_109 : decode cX7_load 109 = .ok (.iinc 1 1, 3) := by decide +kernel
theorem dX7_load_112 : decode cX7_load 112 = .ok (.goto (-51), 3) := by decide +kernel
theorem dX7_load_115 : decode cX7_load 115 = .ok (.aload_n 0, 1) := by decide +kernel
theorem dX7_load_116 : decode cX7_load 116 = .ok (.getfield 42, 3) := by decide +kernel
theorem dX7_load_119 : decode cX7_load 119 = .ok (.invokevirtual 189, 3) := by decide +kernel
theorem dX7_load_122 : decode cX7_load 122 = .ok (.aload_n 0, 1) := by decide +kernel
theorem dX7_load_123 : decode cX7_load 123 = .ok (.getfield 10, 3) := by decide +kernel
theorem dX7_load_126 : decode cX7_load 126 = .ok (.invokevirtual 77, 3) := by decide +kernel
theorem dX7_load_129 : decode cX7_load 129 = .ok (.ireturn, 1) := by decide +kernel
theorem dX7_keep_0 : decode cX7_keep 0 = .ok (.iload_n 1, 1) := by decide +kernel
theorem dX7_keep_1 : decode cX7_keep 1 = .ok (.iconst 0, 1) := by decide +kernel
theorem dX7_keep_2 : decode cX7_keep 2 = .ok (.iconst 1, 1) := by decide +kernel
theorem dX7_keep_3 : decode cX7_keep 3 = .ok (.invokestatic 63, 3) := by decide +kernel
theorem dX7_keep_6 : decode cX7_keep 6 = .ok (.ifCond .ne 13, 3) := by decide +kernel
theorem dX7_keep_9 : decode cX7_keep 9 = .ok (.new 67, 3) := by decide +kernel
theorem dX7_keep_12 : decode cX7_keep 12 = .ok (.dup, 1) := by decide +kernel
theorem dX7_keep_13 : decode cX7_keep 13 = .ok (.ldc 209, 2) := by decide +kernel
theorem dX7_keep_15 : decode cX7_keep 15 = .ok (.invokespecial 71, 3) := by decide +kernel
theorem dX7_keep_18 : decode cX7_keep 18 = .ok (.athrow, 1) := by decide +kernel
theorem dX7_keep_19 : decode cX7_keep 19 = .ok (.aload_n 0, 1) := by decide +kernel
theorem dX7_keep_20 : decode cX7_keep 20 = .ok (.iload_n 1, 1) := by decide +kernel
theorem dX7_keep_21 : decode cX7_keep 21 = .ok (.invokevirtual 211, 3) := by decide +kernel
theorem dX7_keep_24 : decode cX7_keep 24 = .ok (.aload_n 0, 1) := by decide +kernel
theorem dX7_keep_25 : decode cX7_keep 25 = .ok (.getfield 10, 3) := by decide +kernel
theorem dX7_keep_28 : decode cX7_keep 28 = .ok (.invokevirtual 215, 3) := by decide +kernel
theorem dX7_keep_31 : decode cX7_keep 31 = .ok (.aload_n 0, 1) := by decide +kernel
theorem dX7_keep_32 : decode cX7_keep 32 = .ok (.getfield 10, 3) := by decide +kernel
theorem dX7_keep_35 : decode cX7_keep 35 = .ok (.getfield 81, 3) := by decide +kernel
theorem dX7_keep_38 : decode cX7_keep 38 = .ok (.ireturn, 1) := by decide +kernel
theorem dX7_goBack_0 : decode cX7_goBack 0 = .ok (.iload_n 1, 1) := by decide +kernel
theorem dX7_goBack_1 : decode cX7_goBack 1 = .ok (.iconst 0, 1) := by decide +kernel
theorem dX7_goBack_2 : decode cX7_goBack 2 = .ok (.iconst 1, 1) := by decide +kernel
theorem dX7_goBack_3 : decode cX7_goBack 3 = .ok (.invokestatic 63, 3) := by decide +kernel
theorem dX7_goBack_6 : decode cX7_goBack 6 = .ok (.ifCond .ne 13, 3) := by decide +kernel
theorem dX7_goBack_9 : decode cX7_goBack 9 = .ok (.new 67, 3) := by decide +kernel
theorem dX7_goBack_12 : decode cX7_goBack 12 = .ok (.dup, 1) := by decide +kernel
theorem dX7_goBack_13 : decode cX7_goBack 13 = .ok (.ldc 209, 2) := by decide +kernel
theorem dX7_goBack_15 : decode cX7_goBack 15 = .ok (.invokespecial 71, 3) := by decide +kernel
theorem dX7_goBack_18 : decode cX7_goBack 18 = .ok (.athrow, 1) := by decide +kernel
theorem dX7_goBack_19 : decode cX7_goBack 19 = .ok (.aload_n 0, 1) := by decide +kernel
theorem dX7_goBack_20 : decode cX7_goBack 20 = .ok (.iload_n 1, 1) := by decide +kernel
theorem dX7_goBack_21 : decode cX7_goBack 21 = .ok (.invokevirtual 211, 3) := by decide +kernel
theorem dX7_goBack_24 : decode cX7_goBack 24 = .ok (.astore_n 2, 1) := by decide +kernel
theorem dX7_goBack_25 : decode cX7_goBack 25 = .ok (.aload_n 2, 1) := by decide +kernel
theorem dX7_goBack_26 : decode cX7_goBack 26 = .ok (.getfield 218, 3) := by decide +kernel
theorem dX7_goBack_29 : decode cX7_goBack 29 = .ok (.ifCond .ne 13, 3) := by decide +kernel
theorem dX7_goBack_32 : decode cX7_goBack 32 = .ok (.new 145, 3) := by decide +kernel
theorem dX7_goBack_35 : decode cX7_goBack 35 = .ok (.dup, 1) := by decide +kernel
theorem dX7_goBack_36 : decode cX7_goBack 36 = .ok (.ldc 222, 2) := by decide +kernel
theorem dX7_goBack_38 : decode cX7_goBack 38 = .ok (.invokespecial 149, 3) := by decide +kernel
theorem dX7_goBack_41 : decode cX7_goBack 41 = .ok (.athrow, 1) := by decide +kernel
theorem dX7_goBack_42 : decode cX7_goBack 42 = .ok (.aload_n 0, 1) := by decide +kernel
theorem dX7_goBack_43 : decode cX7_goBack 43 = .ok (.getfield 49, 3) := by decide +kernel
theorem dX7_goBack_46 : decode cX7_goBack 46 = .ok (.aload_n 0, 1) := by decide +kernel
theorem dX7_goBack_47 : decode cX7_goBack 47 = .ok (.getfield 10, 3) := by decide +kernel
theorem dX7_goBack_50 : decode cX7_goBack 50 = .ok (.invokevirtual 74, 3) := by decide +kernel
theorem dX7_goBack_53 : decode cX7_goBack 53 = .ok (.aload_n 0, 1) := by decide +kernel
theorem dX7_goBack_54 : decode cX7_goBack 54 = .ok (.getfield 10, 3) := by decide +kernel
theorem dX7_goBack_57 : decode cX7_goBack 57 = .ok (.aload_n 2, 1) := by decide +kernel
theorem dX7_goBack_58 : decode cX7_goBack 58 = .ok (.getfield 224, 3) := by decide +kernel
theorem dX7_goBack_61 : decode cX7_goBack 61 = .ok (.invokevirtual 227, 3) := by decide +kernel
theorem dX7_goBack_64 : decode cX7_goBack 64 = .ok (.aload_n 0, 1) := by decide +kernel
theorem dX7_goBack_65 : decode cX7_goBack 65 = .ok (.getfield 10, 3) := by decide +kernel
theorem dX7_goBack_68 : decode cX7_goBack 68 = .ok (.getfield 81, 3) := by decide +kernel
theorem dX7_goBack_71 : decode cX7_goBack 71 = .ok (.ireturn, 1) := by decide +kernel
theorem dX7_undo_0 : decode cX7_undo 0 = .ok (.aload_n 0, 1) := by decide +kernel
theorem dX7_undo_1 : decode cX7_undo 1 = .ok (.getfield 49, 3) := by decide +kernel
theorem dX7_undo_4 : decode cX7_undo 4 = .ok (.getfield 230, 3) := by decide +kernel
theorem dX7_undo_7 : decode cX7_undo 7 = .ok (.ifCond .ne 13, 3) := by decide +kernel
theorem dX7_undo_10 : decode cX7_undo 10 = .ok (.new 145, 3) := by decide +kernel
theorem dX7_undo_13 : decode cX7_undo 13 = .ok (.dup, 1) := by decide +kernel
theorem dX7_undo_14 : decode cX7_undo 14 = .ok (.ldc 233, 2) := by decide +kernel
theorem dX7_undo_16 : decode cX7_undo 16 = .ok (.invokespecial 149, 3) := by decide +kernel
theorem dX7_undo_19 : decode cX7_undo 19 = .ok (.athrow, 1) := by decide +kernel
theorem dX7_undo_20 : decode cX7_undo 20 = .ok (.aload_n 0, 1) := by decide +kernel
theorem dX7_undo_21 : decode cX7_undo 21 = .ok (.getfield 10, 3) := by decide +kernel
theorem dX7_undo_24 : decode cX7_undo 24 = .ok (.aload_n 0, 1) := by decide +kernel
theorem dX7_undo_25 : decode cX7_undo 25 = .ok (.getfield 49, 3) := by decide +kernel
theorem dX7_undo_28 : decode cX7_undo 28 = .ok (.invokevirtual 235, 3) := by decide +kernel
theorem dX7_undo_31 : decode cX7_undo 31 = .ok (.invokevirtual 227, 3) := by decide +kernel
theorem dX7_undo_34 : decode cX7_undo 34 = .ok (.aload_n 0, 1) := by decide +kernel
theorem dX7_undo_35 : decode cX7_undo 35 = .ok (.getfield 49, 3) := by decide +kernel
theorem dX7_undo_38 : decode cX7_undo 38 = .ok (.dup, 1) := by decide +kernel
theorem dX7_undo_39 : decode cX7_undo 39 = .ok (.getfield 230, 3) := by decide +kernel
theorem dX7_undo_42 : decode cX7_undo 42 = .ok (.iconst 1, 1) := by decide +kernel
theorem dX7_undo_43 : decode cX7_undo 43 = .ok (.isub, 1) := by decide +kernel
theorem dX7_undo_44 : decode cX7_undo 44 = .ok (.putfield 230, 3) := by decide +kernel
theorem dX7_undo_47 : decode cX7_undo 47 = .ok (.aload_n 0, 1) := by decide +kernel
theorem dX7_undo_48 : decode cX7_undo 48 = .ok (.getfield 49, 3) := by decide +kernel
theorem dX7_undo_51 : decode cX7_undo 51 = .ok (.getfield 230, 3) := by decide +kernel
theorem dX7_undo_54 : decode cX7_undo 54 = .ok (.ireturn, 1) := by decide +kernel
theorem dX7_cell_0 : decode cX7_cell 0 = .ok (.aload_n 0, 1) := by decide +kernel
theorem dX7_cell_1 : decode cX7_cell 1 = .ok (.getfield 10, 3) := by decide +kernel
theorem dX7_cell_4 : decode cX7_cell 4 = .ok (.iload_n 1, 1) := by decide +kernel
theorem dX7_cell_5 : decode cX7_cell 5 = .ok (.iload_n 2, 1) := by decide +kernel
theorem dX7_cell_6 : decode cX7_cell 6 = .ok (.invokevirtual 88, 3) := by decide +kernel
theorem dX7_cell_9 : decode cX7_cell 9 = .ok (.ifCond .ne 13, 3) := by decide +kernel
theorem dX7_cell_12 : decode cX7_cell 12 = .ok (.new 92, 3) := by decide +kernel
theorem dX7_cell_15 : decode cX7_cell 15 = .ok (.dup, 1) := by decide +kernel
theorem dX7_cell_16 : decode cX7_cell 16 = .ok (.ldc 94, 2) := by decide +kernel
theorem dX7_cell_18 : decode cX7_cell 18 = .ok (.invokespecial 96, 3) := by decide +kernel
theorem dX7_cell_21 : decode cX7_cell 21 = .ok (.athrow, 1) := by decide +kernel
theorem dX7_cell_22 : decode cX7_cell 22 = .ok (.aload_n 0, 1) := by decide +kernel
theorem dX7_cell_23 : decode cX7_cell 23 = .ok (.getfield 10, 3) := by decide +kernel
theorem dX7_cell_26 : decode cX7_cell 26 = .ok (.iload_n 1, 1) := by decide +kernel
theorem dX7_cell_27 : decode cX7_cell 27 = .ok (.iload_n 2, 1) := by decide +kernel
theorem dX7_cell_28 : decode cX7_cell 28 = .ok (.invokevirtual 99, 3) := by decide +kernel
theorem dX7_cell_31 : decode cX7_cell 31 = .ok (.ireturn, 1) := by decide +kernel
theorem dX7_place_0 : decode cX7_place 0 = .ok (.iload_n 1, 1) := by decide +kernel
theorem dX7_place_1 : decode cX7_place 1 = .ok (.iconst 0, 1) := by decide +kernel
theorem dX7_place_2 : decode cX7_place 2 = .ok (.aload_n 0, 1) := by decide +kernel
theorem dX7_place_3 : decode cX7_place 3 = .ok (.getfield 10, 3) := by decide +kernel
theorem dX7_place_6 : decode cX7_place 6 = .ok (.getfield 81, 3) := by decide +kernel
theorem dX7_place_9 : decode cX7_place 9 = .ok (.iconst 1, 1) := by decide +kernel
theorem dX7_place_10 : decode cX7_place 10 = .ok (.isub, 1) := by decide +kernel
theorem dX7_place_11 : decode cX7_place 11 = .ok (.invokestatic 63, 3) := by decide +kernel
theorem dX7_place_14 : decode cX7_place 14 = .ok (.ifCond .ne 13, 3) := by decide +kernel
theorem dX7_place_17 : decode cX7_place 17 = .ok (.new 92, 3) := by decide +kernel
theorem dX7_place_20 : decode cX7_place 20 = .ok (.dup, 1) := by decide +kernel
theorem dX7_place_21 : decode cX7_place 21 = .ok (.ldc 239, 2) := by decide +kernel
theorem dX7_place_23 : decode cX7_place 23 = .ok (.invokespecial 96, 3) := by decide +kernel
theorem dX7_place_26 : decode cX7_place 26 = .ok (.athrow, 1) := by decide +kernel
theorem dX7_place_27 : decode cX7_place 27 = .ok (.iload_n 2, 1) := by decide +kernel
theorem dX7_place_28 : decode cX7_place 28 = .ok (.invokestatic 136, 3) := by decide +kernel
theorem dX7_place_31 : decode cX7_place 31 = .ok (.ifCond .ne 13, 3) := by decide +kernel
theorem dX7_place_34 : decode cX7_place 34 = .ok (.new 67, 3) := by decide +kernel
theorem dX7_place_37 : decode cX7_place 37 = .ok (.dup, 1) := by decide +kernel
theorem dX7_place_38 : decode cX7_place 38 = .ok (.ldc 140, 2) := by decide +kernel
theorem dX7_place_40 : decode cX7_place 40 = .ok (.invokespecial 71, 3) := by decide +kernel
theorem dX7_place_43 : decode cX7_place 43 = .ok (.athrow, 1) := by decide +kernel
theorem dX7_place_44 : decode cX7_place 44 = .ok (.aload_n 0, 1) := by decide +kernel
theorem dX7_place_45 : decode cX7_place 45 = .ok (.iload_n 2, 1) := by decide +kernel
theorem dX7_place_46 : decode cX7_place 46 = .ok (.invokevirtual 142, 3) := by decide +kernel
theorem dX7_place_49 : decode cX7_place 49 = .ok (.ifCond .ne 5, 3) := by decide +kernel
theorem dX7_place_52 : decode cX7_place 52 = .ok (.iconst (-1), 1) := by decide +kernel
theorem dX7_place_53 : decode cX7_place 53 = .ok (.ireturn, 1) := by decide +kernel
theorem dX7_place_54 : decode cX7_place 54 = .ok (.aload_n 0, 1) := by decide +kernel
theorem dX7_place_55 : decode cX7_place 55 = .ok (.getfield 28, 3) := by decide +kernel
theorem dX7_place_58 : decode cX7_place 58 = .ok (.iload_n 2, 1) := by decide +kernel
theorem dX7_place_59 : decode cX7_place 59 = .ok (.invokevirtual 150, 3) := by decide +kernel
theorem dX7_place_62 : decode cX7_place 62 = .ok (.aload_n 0, 1) := by decide +kernel
theorem dX7_place_63 : decode cX7_place 63 = .ok (.getfield 28, 3) := by decide +kernel
theorem dX7_place_66 : decode cX7_place 66 = .ok (.iload_n 2, 1) := by decide +kernel
theorem dX7_place_67 : decode cX7_place 67 = .ok (.iload_n 1, 1) := by decide +kernel
theorem dX7_place_68 : decode cX7_place 68 = .ok (.invokevirtual 241, 3) := by decide +kernel
theorem dX7_place_71 : decode cX7_place 71 = .ok (.ireturn, 1) := by decide +kernel
theorem dX7_looks_0 : decode cX7_looks 0 = .ok (.iload_n 1, 1) := by decide +kernel
theorem dX7_looks_1 : decode cX7_looks 1 = .ok (.invokestatic 136, 3) := by decide +kernel
theorem dX7_looks_4 : decode cX7_looks 4 = .ok (.ifCond .ne 13, 3) := by decide +kernel
theorem dX7_looks_7 : decode cX7_looks 7 = .ok (.new 67, 3) := by decide +kernel
theorem dX7_looks_10 : decode cX7_looks 10 = .ok (.dup, 1) := by decide +kernel
theorem dX7_looks_11 : decode cX7_looks 11 = .ok (.ldc 140, 2) := by decide +kernel
theorem dX7_looks_13 : decode cX7_looks 13 = .ok (.invokespecial 71, 3) := by decide +kernel
theorem dX7_looks_16 : decode cX7_looks 16 = .ok (.athrow, 1) := by decide +kernel
theorem dX7_looks_17 : decode cX7_looks 17 = .ok (.aload_n 0, 1) := by decide +kernel
theorem dX7_looks_18 : decode cX7_looks 18 = .ok (.iload_n 1, 1) := by decide +kernel
theorem dX7_looks_19 : decode cX7_looks 19 = .ok (.invokevirtual 142, 3) := by decide +kernel
theorem dX7_looks_22 : decode cX7_looks 22 = .ok (.ifCond .ne 5, 3) := by decide +kernel
theorem dX7_looks_25 : decode cX7_looks 25 = .ok (.iconst (-1), 1) := by decide +kernel
theorem dX7_looks_26 : decode cX7_looks 26 = .ok (.ireturn, 1) := by decide +kernel
theorem dX7_looks_27 : decode cX7_looks 27 = .ok (.aload_n 0, 1) := by decide +kernel
theorem dX7_looks_28 : decode cX7_looks 28 = .ok (.getfield 28, 3) := by decide +kernel
theorem dX7_looks_31 : decode cX7_looks 31 = .ok (.iload_n 1, 1) := by decide +kernel
theorem dX7_looks_32 : decode cX7_looks 32 = .ok (.invokevirtual 150, 3) := by decide +kernel
theorem dX7_looks_35 : decode cX7_looks 35 = .ok (.aload_n 0, 1) := by decide +kernel
theorem dX7_looks_36 : decode cX7_looks 36 = .ok (.getfield 28, 3) := by decide +kernel
theorem dX7_looks_39 : decode cX7_looks 39 = .ok (.iload_n 1, 1) := by decide +kernel
theorem dX7_looks_40 : decode cX7_looks 40 = .ok (.invokevirtual 154, 3) := by decide +kernel
theorem dX7_looks_43 : decode cX7_looks 43 = .ok (.ireturn, 1) := by decide +kernel
theorem dX7_bound_0 : decode cX7_bound 0 = .ok (.iconst 0, 1) := by decide +kernel
theorem dX7_bound_1 : decode cX7_bound 1 = .ok (.istore_n 1, 1) := by decide +kernel
theorem dX7_bound_2 : decode cX7_bound 2 = .ok (.aload_n 0, 1) := by decide +kernel
theorem dX7_bound_3 : decode cX7_bound 3 = .ok (.getfield 10, 3) := by decide +kernel
theorem dX7_bound_6 : decode cX7_bound 6 = .ok (.getfield 81, 3) := by decide +kernel
theorem dX7_bound_9 : decode cX7_bound 9 = .ok (.istore_n 2, 1) := by decide +kernel
theorem dX7_bound_10 : decode cX7_bound 10 = .ok (.iload_n 2, 1) := by decide +kernel
theorem dX7_bound_11 : decode cX7_bound 11 = .ok (.ifCond .le 13, 3) := by decide +kernel
theorem dX7_bound_14 : decode cX7_bound 14 = .ok (.iinc 1 1, 3) := by decide +kernel
theorem dX7_bound_17 : decode cX7_bound 17 = .ok (.iload_n 2, 1) := by decide +kernel
theorem dX7_bound_18 : decode cX7_bound 18 = .ok (.iconst 2, 1) := by decide +kernel
theorem dX7_bound_19 : decode cX7_bound 19 = .ok (.idiv, 1) := by decide +kernel
theorem dX7_bound_20 : decode cX7_bound 20 = .ok (.istore_n 2, 1) := by decide +kernel
theorem dX7_bound_21 : decode cX7_bound 21 = .ok (.goto (-11), 3) := by decide +kernel
theorem dX7_bound_24 : decode cX7_bound 24 = .ok (.aload_n 0, 1) := by decide +kernel
theorem dX7_bound_25 : decode cX7_bound 25 = .ok (.getfield 10, 3) := by decide +kernel
theorem dX7_bound_28 : decode cX7_bound 28 = .ok (.getfield 81, 3) := by decide +kernel
theorem dX7_bound_31 : decode cX7_bound 31 = .ok (.aload_n 0, 1) := by decide +kernel
theorem dX7_bound_32 : decode cX7_bound 32 = .ok (.getfield 10, 3) := by decide +kernel
theorem dX7_bound_35 : decode cX7_bound 35 = .ok (.getfield 85, 3) := by decide +kernel
theorem dX7_bound_38 : decode cX7_bound 38 = .ok (.iadd, 1) := by decide +kernel
theorem dX7_bound_39 : decode cX7_bound 39 = .ok (.iload_n 1, 1) := by decide +kernel
theorem dX7_bound_40 : decode cX7_bound 40 = .ok (.imul, 1) := by decide +kernel
theorem dX7_bound_41 : decode cX7_bound 41 = .ok (.ireturn, 1) := by decide +kernel
theorem dX7_witness_0 : decode cX7_witness 0 = .ok (.iload_n 1, 1) := by decide +kernel
theorem dX7_witness_1 : decode cX7_witness 1 = .ok (.iconst 0, 1) := by decide +kernel
theorem dX7_witness_2 : decode cX7_witness 2 = .ok (.iconst 3, 1) := by decide +kernel
theorem dX7_witness_3 : decode cX7_witness 3 = .ok (.invokestatic 63, 3) := by decide +kernel
theorem dX7_witness_6 : decode cX7_witness 6 = .ok (.ifCond .ne 13, 3) := by decide +kernel
theorem dX7_witness_9 : decode cX7_witness 9 = .ok (.new 67, 3) := by decide +kernel
theorem dX7_witness_12 : decode cX7_witness 12 = .ok (.dup, 1) := by decide +kernel
theorem dX7_witness_13 : decode cX7_witness 13 = .ok (.ldc 244, 2) := by decide +kernel
theorem dX7_witness_15 : decode cX7_witness 15 = .ok (.invokespecial 71, 3) := by decide +kernel
theorem dX7_witness_18 : decode cX7_witness 18 = .ok (.athrow, 1) := by decide +kernel
theorem dX7_witness_19 : decode cX7_witness 19 = .ok (.aload_n 0, 1) := by decide +kernel
theorem dX7_witness_20 : decode cX7_witness 20 = .ok (.getfield 21, 3) := by decide +kernel
theorem dX7_witness_23 : decode cX7_witness 23 = .ok (.invokevirtual 118, 3) := by decide +kernel
theorem dX7_witness_26 : decode cX7_witness 26 = .ok (.aload_n 0, 1) := by decide +kernel
theorem dX7_witness_27 : decode cX7_witness 27 = .ok (.getfield 21, 3) := by decide +kernel
theorem dX7_witness_30 : decode cX7_witness 30 = .ok (.iload_n 1, 1) := by decide +kernel
theorem dX7_witness_31 : decode cX7_witness 31 = .ok (.invokevirtual 246, 3) := by decide +kernel
theorem dX7_witness_34 : decode cX7_witness 34 = .ok (.ireturn, 1) := by decide +kernel
theorem dX7_count_0 : decode cX7_count 0 = .ok (.iload_n 1, 1) := by decide +kernel
theorem dX7_count_1 : decode cX7_count 1 = .ok (.iconst 0, 1) := by decide +kernel
theorem dX7_count_2 : decode cX7_count 2 = .ok (.bipush 8, 2) := by decide +kernel
theorem dX7_count_4 : decode cX7_count 4 = .ok (.invokestatic 63, 3) := by decide +kernel
theorem dX7_count_7 : decode cX7_count 7 = .ok (.ifCond .ne 13, 3) := by decide +kernel
theorem dX7_count_10 : decode cX7_count 10 = .ok (.new 67, 3) := by decide +kernel
theorem dX7_count_13 : decode cX7_count 13 = .ok (.dup, 1) := by decide +kernel
theorem dX7_count_14 : decode cX7_count 14 = .ok (.ldc 249, 2) := by decide +kernel
theorem dX7_count_16 : decode cX7_count 16 = .ok (.invokespecial 71, 3) := by decide +kernel
theorem dX7_count_19 : decode cX7_count 19 = .ok (.athrow, 1) := by decide +kernel
theorem dX7_count_20 : decode cX7_count 20 = .ok (.aload_n 0, 1) := by decide +kernel
theorem dX7_count_21 : decode cX7_count 21 = .ok (.iload_n 1, 1) := by decide +kernel
theorem dX7_count_22 : decode cX7_count 22 = .ok (.invokevirtual 251, 3) := by decide +kernel
theorem dX7_count_25 : decode cX7_count 25 = .ok (.ireturn, 1) := by decide +kernel
theorem dX7_weight_0 : decode cX7_weight 0 = .ok (.iload_n 1, 1) := by decide +kernel
theorem dX7_weight_1 : decode cX7_weight 1 = .ok (.iconst 0, 1) := by decide +kernel
theorem dX7_weight_2 : decode cX7_weight 2 = .ok (.aload_n 0, 1) := by decide +kernel
theorem dX7_weight_3 : decode cX7_weight 3 = .ok (.getfield 10, 3) := by decide +kernel
theorem dX7_weight_6 : decode cX7_weight 6 = .ok (.getfield 166, 3) := by decide +kernel
theorem dX7_weight_9 : decode cX7_weight 9 = .ok (.iconst 1, 1) := by decide +kernel
theorem dX7_weight_10 : decode cX7_weight 10 = .ok (.isub, 1) := by decide +kernel
theorem dX7_weight_11 : decode cX7_weight 11 = .ok (.invokestatic 63, 3) := by decide +kernel
theorem dX7_weight_14 : decode cX7_weight 14 = .ok (.ifCond .ne 13, 3) := by decide +kernel
theorem dX7_weight_17 : decode cX7_weight 17 = .ok (.new 92, 3) := by decide +kernel
theorem dX7_weight_20 : decode cX7_weight 20 = .ok (.dup, 1) := by decide +kernel
theorem dX7_weight_21 : decode cX7_weight 21 = .ok (.ldc 254, 2) := by decide +kernel
theorem dX7_weight_23 : decode cX7_weight 23 = .ok (.invokespecial 96, 3) := by decide +kernel
theorem dX7_weight_26 : decode cX7_weight 26 = .ok (.athrow, 1) := by decide +kernel
theorem dX7_weight_27 : decode cX7_weight 27 = .ok (.aload_n 0, 1) := by decide +kernel
theorem dX7_weight_28 : decode cX7_weight 28 = .ok (.getfield 10, 3) := by decide +kernel
theorem dX7_weight_31 : decode cX7_weight 31 = .ok (.iload_n 1, 1) := by decide +kernel
theorem dX7_weight_32 : decode cX7_weight 32 = .ok (.invokevirtual 176, 3) := by decide +kernel
theorem dX7_weight_35 : decode cX7_weight 35 = .ok (.ireturn, 1) := by decide +kernel
theorem dX7_cost_0 : decode cX7_cost 0 = .ok (.iload_n 1, 1) := by decide +kernel
theorem dX7_cost_1 : decode cX7_cost 1 = .ok (.iconst 1, 1) := by decide +kernel
theorem dX7_cost_2 : decode cX7_cost 2 = .ok (.aload_n 0, 1) := by decide +kernel
theorem dX7_cost_3 : decode cX7_cost 3 = .ok (.getfield 10, 3) := by decide +kernel
theorem dX7_cost_6 : decode cX7_cost 6 = .ok (.getfield 166, 3) := by decide +kernel
theorem dX7_cost_9 : decode cX7_cost 9 = .ok (.invokestatic 63, 3) := by decide +kernel
theorem dX7_cost_12 : decode cX7_cost 12 = .ok (.ifCond .eq 12, 3) := by decide +kernel
theorem dX7_cost_15 : decode cX7_cost 15 = .ok (.iload_n 2, 1) := by decide +kernel
theorem dX7_cost_16 : decode cX7_cost 16 = .ok (.iconst 0, 1) := by decide +kernel
theorem dX7_cost_17 : decode cX7_cost 17 = .ok (.iconst 1, 1) := by decide +kernel
theorem dX7_cost_18 : decode cX7_cost 18 = .ok (.invokestatic 63, 3) := by decide +kernel
theorem dX7_cost_21 : decode cX7_cost 21 = .ok (.ifCond .ne 14, 3) := by decide +kernel
theorem dX7_cost_24 : decode cX7_cost 24 = .ok (.new 67, 3) := by decide +kernel
theorem dX7_cost_27 : decode cX7_cost 27 = .ok (.dup, 1) := by decide +kernel
theorem dX7_cost_28 : decode cX7_cost 28 = .ok (.ldc_w 256, 3) := by decide +kernel
theorem dX7_cost_31 : decode cX7_cost 31 = .ok (.invokespecial 71, 3) := by decide +kernel
theorem dX7_cost_34 : decode cX7_cost 34 = .ok (.athrow, 1) := by decide +kernel
theorem dX7_cost_35 : decode cX7_cost 35 = .ok (.iload_n 2, 1) := by decide +kernel
theorem dX7_cost_36 : decode cX7_cost 36 = .ok (.ifCond .ne 19, 3) := by decide +kernel
theorem dX7_cost_39 : decode cX7_cost 39 = .ok (.aload_n 0, 1) := by decide +kernel
theorem dX7_cost_40 : decode cX7_cost 40 = .ok (.getfield 35, 3) := by decide +kernel
theorem dX7_cost_43 : decode cX7_cost 43 = .ok (.invokevirtual 258, 3) := by decide +kernel
theorem dX7_cost_46 : decode cX7_cost 46 = .ok (.aload_n 0, 1) := by decide +kernel
theorem dX7_cost_47 : decode cX7_cost 47 = .ok (.getfield 35, 3) := by decide +kernel
theorem dX7_cost_50 : decode cX7_cost 50 = .ok (.iload_n 1, 1) := by decide +kernel
theorem dX7_cost_51 : decode cX7_cost 51 = .ok (.invokevirtual 261, 3) := by decide +kernel
theorem dX7_cost_54 : decode cX7_cost 54 = .ok (.ireturn, 1) := by decide +kernel
theorem dX7_cost_55 : decode cX7_cost 55 = .ok (.aload_n 0, 1) := by decide +kernel
theorem dX7_cost_56 : decode cX7_cost 56 = .ok (.getfield 35, 3) := by decide +kernel
theorem dX7_cost_59 : decode cX7_cost 59 = .ok (.invokevirtual 264, 3) := by decide +kernel
theorem dX7_cost_62 : decode cX7_cost 62 = .ok (.aload_n 0, 1) := by decide +kernel
theorem dX7_cost_63 : decode cX7_cost 63 = .ok (.getfield 35, 3) := by decide +kernel
theorem dX7_cost_66 : decode cX7_cost 66 = .ok (.iload_n 1, 1) := by decide +kernel
theorem dX7_cost_67 : decode cX7_cost 67 = .ok (.invokevirtual 267, 3) := by decide +kernel
theorem dX7_cost_70 : decode cX7_cost 70 = .ok (.ireturn, 1) := by decide +kernel
theorem dX7_cut_0 : decode cX7_cut 0 = .ok (.iload_n 1, 1) := by decide +kernel
theorem dX7_cut_1 : decode cX7_cut 1 = .ok (.iconst 1, 1) := by decide +kernel
theorem dX7_cut_2 : decode cX7_cut 2 = .ok (.aload_n 0, 1) := by decide +kernel
theorem dX7_cut_3 : decode cX7_cut 3 = .ok (.getfield 10, 3) := by decide +kernel
theorem dX7_cut_6 : decode cX7_cut 6 = .ok (.getfield 166, 3) := by decide +kernel
theorem dX7_cut_9 : decode cX7_cut 9 = .ok (.invokestatic 63, 3) := by decide +kernel
theorem dX7_cut_12 : decode cX7_cut 12 = .ok (.ifCond .eq 7, 3) := by decide +kernel
theorem dX7_cut_15 : decode cX7_cut 15 = .ok (.iload_n 2, 1) := by decide +kernel
theorem dX7_cut_16 : decode cX7_cut 16 = .ok (.ifCond .ge 14, 3) := by decide +kernel
theorem dX7_cut_19 : decode cX7_cut 19 = .ok (.new 67, 3) := by decide +kernel
theorem dX7_cut_22 : decode cX7_cut 22 = .ok (.dup, 1) := by decide +kernel
theorem dX7_cut_23 : decode cX7_cut 23 = .ok (.ldc_w 270, 3) := by decide +kernel
theorem dX7_cut_26 : decode cX7_cut 26 = .ok (.invokespecial 71, 3) := by decide +kernel
theorem dX7_cut_29 : decode cX7_cut 29 = .ok (.athrow, 1) := by decide +kernel
theorem dX7_cut_30 : decode cX7_cut 30 = .ok (.iload_n 2, 1) := by decide +kernel
theorem dX7_cut_31 : decode cX7_cut 31 = .ok (.iload_n 1, 1) := by decide +kernel
theorem dX7_cut_32 : decode cX7_cut 32 = .ok (.iconst 1, 1) := by decide +kernel
theorem dX7_cut_33 : decode cX7_cut 33 = .ok (.isub, 1) := by decide +kernel
theorem dX7_cut_34 : decode cX7_cut 34 = .ok (.if_icmp .lt 5, 3) := by decide +kernel
theorem dX7_cut_37 : decode cX7_cut 37 = .ok (.iconst (-1), 1) := by decide +kernel
theorem dX7_cut_38 : decode cX7_cut 38 = .ok (.ireturn, 1) := by decide +kernel
theorem dX7_cut_39 : decode cX7_cut 39 = .ok (.aload_n 0, 1) := by decide +kernel
theorem dX7_cut_40 : decode cX7_cut 40 = .ok (.getfield 35, 3) := by decide +kernel
theorem dX7_cut_43 : decode cX7_cut 43 = .ok (.invokevirtual 258, 3) := by decide +kernel
theorem dX7_cut_46 : decode cX7_cut 46 = .ok (.aload_n 0, 1) := by decide +kernel
theorem dX7_cut_47 : decode cX7_cut 47 = .ok (.getfield 35, 3) := by decide +kernel
theorem dX7_cut_50 : decode cX7_cut 50 = .ok (.iload_n 1, 1) := by decide +kernel
theorem dX7_cut_51 : decode cX7_cut 51 = .ok (.iload_n 2, 1) := by decide +kernel
theorem dX7_cut_52 : decode cX7_cut 52 = .ok (.invokevirtual 272, 3) := by decide +kernel
theorem dX7_cut_55 : decode cX7_cut 55 = .ok (.ireturn, 1) := by decide +kernel
theorem dX7_fewestParts_0 : decode cX7_fewestParts 0 = .ok (.iload_n 1, 1) := by decide +kernel
theorem dX7_fewestParts_1 : decode cX7_fewestParts 1 = .ok (.iconst 1, 1) := by decide +kernel
theorem dX7_fewestParts_2 : decode cX7_fewestParts 2 = .ok (.ldc_w 275, 3) := by decide +kernel
theorem dX7_fewestParts_5 : decode cX7_fewestParts 5 = .ok (.invokestatic 63, 3) := by decide +kernel
theorem dX7_fewestParts_8 : decode cX7_fewestParts 8 = .ok (.ifCond .ne 14, 3) := by decide +kernel
theorem dX7_fewestParts_11 : decode cX7_fewestParts 11 = .ok (.new 67, 3) := by decide +kernel
theorem dX7_fewestParts_14 : decode cX7_fewestParts 14 = .ok (.dup, 1) := by decide +kernel
theorem dX7_fewestParts_15 : decode cX7_fewestParts 15 = .ok (.ldc_w 276, 3) := by decide +kernel
theorem dX7_fewestParts_18 : decode cX7_fewestParts 18 = .ok (.invokespecial 71, 3) := by decide +kernel
theorem dX7_fewestParts_21 : decode cX7_fewestParts 21 = .ok (.athrow, 1) := by decide +kernel
theorem dX7_fewestParts_22 : decode cX7_fewestParts 22 = .ok (.aload_n 0, 1) := by decide +kernel
theorem dX7_fewestParts_23 : decode cX7_fewestParts 23 = .ok (.getfield 35, 3) := by decide +kernel
theorem dX7_fewestParts_26 : decode cX7_fewestParts 26 = .ok (.invokevirtual 258, 3) := by decide +kernel
theorem dX7_fewestParts_29 : decode cX7_fewestParts 29 = .ok (.aload_n 0, 1) := by decide +kernel
theorem dX7_fewestParts_30 : decode cX7_fewestParts 30 = .ok (.getfield 35, 3) := by decide +kernel
theorem dX7_fewestParts_33 : decode cX7_fewestParts 33 = .ok (.iload_n 1, 1) := by decide +kernel
theorem dX7_fewestParts_34 : decode cX7_fewestParts 34 = .ok (.invokevirtual 278, 3) := by decide +kernel
theorem dX7_fewestParts_37 : decode cX7_fewestParts 37 = .ok (.ireturn, 1) := by decide +kernel
theorem dX7_halfShare_0 : decode cX7_halfShare 0 = .ok (.aload_n 0, 1) := by decide +kernel
theorem dX7_halfShare_1 : decode cX7_halfShare 1 = .ok (.getfield 21, 3) := by decide +kernel
theorem dX7_halfShare_4 : decode cX7_halfShare 4 = .ok (.invokevirtual 114, 3) := by decide +kernel
theorem dX7_halfShare_7 : decode cX7_halfShare 7 = .ok (.ifCond .ne 5, 3) := by decide +kernel
theorem dX7_halfShare_10 : decode cX7_halfShare 10 = .ok (.dconst 0, 1) := by decide +kernel
theorem dX7_halfShare_11 : decode cX7_halfShare 11 = .ok (.dreturn, 1) := by decide +kernel
theorem dX7_halfShare_12 : decode cX7_halfShare 12 = .ok (.aload_n 0, 1) := by decide +kernel
theorem dX7_halfShare_13 : decode cX7_halfShare 13 = .ok (.getfield 28, 3) := by decide +kernel
theorem dX7_halfShare_16 : decode cX7_halfShare 16 = .ok (.iconst 0, 1) := by decide +kernel
theorem dX7_halfShare_17 : decode cX7_halfShare 17 = .ok (.invokevirtual 150, 3) := by decide +kernel
theorem dX7_halfShare_20 : decode cX7_halfShare 20 = .ok (.aload_n 0, 1) := by decide +kernel
theorem dX7_halfShare_21 : decode cX7_halfShare 21 = .ok (.getfield 28, 3) := by decide +kernel
theorem dX7_halfShare_24 : decode cX7_halfShare 24 = .ok (.iconst 1, 1) := by decide +kernel
theorem dX7_halfShare_25 : decode cX7_halfShare 25 = .ok (.invokevirtual 150, 3) := by decide +kernel
theorem dX7_halfShare_28 : decode cX7_halfShare 28 = .ok (.aload_n 0, 1) := by decide +kernel
theorem dX7_halfShare_29 : decode cX7_halfShare 29 = .ok (.getfield 28, 3) := by decide +kernel
theorem dX7_halfShare_32 : decode cX7_halfShare 32 = .ok (.invokevirtual 281, 3) := by decide +kernel
theorem dX7_halfShare_35 : decode cX7_halfShare 35 = .ok (.dreturn, 1) := by decide +kernel
theorem dX7_isFromTo_0 : decode cX7_isFromTo 0 = .ok (.iload_n 0, 1) := by decide +kernel
theorem dX7_isFromTo_1 : decode cX7_isFromTo 1 = .ok (.iload_n 1, 1) := by decide +kernel
theorem dX7_isFromTo_2 : decode cX7_isFromTo 2 = .ok (.if_icmp .lt 12, 3) := by decide +kernel
theorem dX7_isFromTo_5 : decode cX7_isFromTo 5 = .ok (.iload_n 0, 1) := by decide +kernel
theorem dX7_isFromTo_6 : decode cX7_isFromTo 6 = .ok (.iload_n 2, 1) := by decide +kernel
theorem dX7_isFromTo_7 : decode cX7_isFromTo 7 = .ok (.if_icmp .gt 7, 3) := by decide +kernel
theorem dX7_isFromTo_10 : decode cX7_isFromTo 10 = .ok (.iconst 1, 1) := by decide +kernel
theorem dX7_isFromTo_11 : decode cX7_isFromTo 11 = .ok (.goto 4, 3) := by decide +kernel
theorem dX7_isFromTo_14 : decode cX7_isFromTo 14 = .ok (.iconst 0, 1) := by decide +kernel
theorem dX7_isFromTo_15 : decode cX7_isFromTo 15 = .ok (.ireturn, 1) := by decide +kernel
theorem dX7_isWay_0 : decode cX7_isWay 0 = .ok (.iload_n 0, 1) := by decide +kernel
theorem dX7_isWay_1 : decode cX7_isWay 1 = .ok (.iconst 0, 1) := by decide +kernel
theorem dX7_isWay_2 : decode cX7_isWay 2 = .ok (.iconst 2, 1) := by decide +kernel
theorem dX7_isWay_3 : decode cX7_isWay 3 = .ok (.invokestatic 63, 3) := by decide +kernel
theorem dX7_isWay_6 : decode cX7_isWay 6 = .ok (.ireturn, 1) := by decide +kernel
theorem dX7_isOpen_0 : decode cX7_isOpen 0 = .ok (.iload_n 1, 1) := by decide +kernel
theorem dX7_isOpen_1 : decode cX7_isOpen 1 = .ok (.ifCond .eq 13, 3) := by decide +kernel
theorem dX7_isOpen_4 : decode cX7_isOpen 4 = .ok (.aload_n 0, 1) := by decide +kernel
theorem dX7_isOpen_5 : decode cX7_isOpen 5 = .ok (.getfield 21, 3) := by decide +kernel
theorem dX7_isOpen_8 : decode cX7_isOpen 8 = .ok (.invokevirtual 114, 3) := by decide +kernel
theorem dX7_isOpen_11 : decode cX7_isOpen 11 = .ok (.ifCond .eq 7, 3) := by decide +kernel
theorem dX7_isOpen_14 : decode cX7_isOpen 14 = .ok (.iconst 1, 1) := by decide +kernel
theorem dX7_isOpen_15 : decode cX7_isOpen 15 = .ok (.goto 4, 3) := by decide +kernel
theorem dX7_isOpen_18 : decode cX7_isOpen 18 = .ok (.iconst 0, 1) := by decide +kernel
theorem dX7_isOpen_19 : decode cX7_isOpen 19 = .ok (.ireturn, 1) := by decide +kernel
theorem dX7_slotAt_0 : decode cX7_slotAt 0 = .ok (.iload_n 1, 1) := by decide +kernel
theorem dX7_slotAt_1 : decode cX7_slotAt 1 = .ok (.ifCond .ne 10, 3) := by decide +kernel
theorem dX7_slotAt_4 : decode cX7_slotAt 4 = .ok (.aload_n 0, 1) := by decide +kernel
theorem dX7_slotAt_5 : decode cX7_slotAt 5 = .ok (.getfield 56, 3) := by decide +kernel
theorem dX7_slotAt_8 : decode cX7_slotAt 8 = .ok (.goto 7, 3) := by decide +kernel
theorem dX7_slotAt_11 : decode cX7_slotAt 11 = .ok (.aload_n 0, 1) := by decide +kernel
theorem dX7_slotAt_12 : decode cX7_slotAt 12 = .ok (.getfield 60, 3) := by decide +kernel
theorem dX7_slotAt_15 : decode cX7_slotAt 15 = .ok (.areturn, 1) := by decide +kernel
theorem dX7_counted_0 : decode cX7_counted 0 = .ok (.iload_n 1, 1) := by decide +kernel
theorem dX7_counted_1 : decode cX7_counted 1 = .ok (.tableswitch 119 0 7 #[47, 55, 63, 71, 79, 87, 95, 103], 47) := by decide +kernel
theorem dX7_counted_48 : decode cX7_counted 48 = .ok (.aload_n 0, 1) := by decide +kernel
theorem dX7_counted_49 : decode cX7_counted 49 = .ok (.getfield 10, 3) := by decide +kernel
theorem dX7_counted_52 : decode cX7_counted 52 = .ok (.getfield 81, 3) := by decide +kernel
theorem dX7_counted_55 : decode cX7_counted 55 = .ok (.ireturn, 1) := by decide +kernel
theorem dX7_counted_56 : decode cX7_counted 56 = .ok (.aload_n 0, 1) := by decide +kernel
theorem dX7_counted_57 : decode cX7_counted 57 = .ok (.getfield 10, 3) := by decide +kernel
theorem dX7_counted_60 : decode cX7_counted 60 = .ok (.getfield 85, 3) := by decide +kernel
theorem dX7_counted_63 : decode cX7_counted 63 = .ok (.ireturn, 1) := by decide +kernel
theorem dX7_counted_64 : decode cX7_counted 64 = .ok (.aload_n 0, 1) := by decide +kernel
theorem dX7_counted_65 : decode cX7_counted 65 = .ok (.getfield 10, 3) := by decide +kernel
theorem dX7_counted_68 : decode cX7_counted 68 = .ok (.getfield 166, 3) := by decide +kernel
theorem dX7_counted_71 : decode cX7_counted 71 = .ok (.ireturn, 1) := by decide +kernel
theorem dX7_counted_72 : decode cX7_counted 72 = .ok (.aload_n 0, 1) := by decide +kernel
theorem dX7_counted_73 : decode cX7_counted 73 = .ok (.getfield 10, 3) := by decide +kernel
theorem dX7_counted_76 : decode cX7_counted 76 = .ok (.invokevirtual 314, 3) := by decide +kernel
theorem dX7_counted_79 : decode cX7_counted 79 = .ok (.ireturn, 1) := by decide +kernel
theorem dX7_counted_80 : decode cX7_counted 80 = .ok (.aload_n 0, 1) := by decide +kernel
theorem dX7_counted_81 : decode cX7_counted 81 = .ok (.getfield 10, 3) := by decide +kernel
theorem dX7_counted_84 : decode cX7_counted 84 = .ok (.getfield 158, 3) := by decide +kernel
theorem dX7_counted_87 : decode cX7_counted 87 = .ok (.ireturn, 1) := by decide +kernel
theorem dX7_counted_88 : decode cX7_counted 88 = .ok (.aload_n 0, 1) := by decide +kernel
theorem dX7_counted_89 : decode cX7_counted 89 = .ok (.getfield 10, 3) := by decide +kernel
theorem dX7_counted_92 : decode cX7_counted 92 = .ok (.getfield 161, 3) := by decide +kernel
theorem dX7_counted_95 : decode cX7_counted 95 = .ok (.ireturn, 1) := by decide +kernel
theorem dX7_counted_96 : decode cX7_counted 96 = .ok (.aload_n 0, 1) := by decide +kernel
theorem dX7_counted_97 : decode cX7_counted 97 = .ok (.getfield 10, 3) := by decide +kernel
theorem dX7_counted_100 : decode cX7_counted 100 = .ok (.getfield 133, 3) := by decide +kernel
theorem dX7_counted_103 : decode cX7_counted 103 = .ok (.ireturn, 1) := by decide +kernel
theorem dX7_counted_104 : decode cX7_counted 104 = .ok (.aload_n 0, 1) := by decide +kernel
theorem dX7_counted_105 : decode cX7_counted 105 = .ok (.getfield 28, 3) := by decide +kernel
theorem dX7_counted_108 : decode cX7_counted 108 = .ok (.iconst 0, 1) := by decide +kernel
end
section
theorem dX7_counted_109 : decode cX7_counted 109 = .ok (.invokevirtual 150, 3) := by decide +kernel
theorem dX7_counted_112 : decode cX7_counted 112 = .ok (.aload_n 0, 1) := by decide +kernel
theorem dX7_counted_113 : decode cX7_counted 113 = .ok (.getfield 28, 3) := by decide +kernel
theorem dX7_counted_116 : decode cX7_counted 116 = .ok (.invokevirtual 317, 3) := by decide +kernel
theorem dX7_counted_119 : decode cX7_counted 119 = .ok (.ireturn, 1) := by decide +kernel
theorem dX7_counted_120 : decode cX7_counted 120 = .ok (.aload_n 0, 1) := by decide +kernel
theorem dX7_counted_121 : decode cX7_counted 121 = .ok (.getfield 49, 3) := by decide +kernel
theorem dX7_counted_124 : decode cX7_counted 124 = .ok (.getfield 230, 3) := by decide +kernel
theorem dX7_counted_127 : decode cX7_counted 127 = .ok (.ireturn, 1) := by decide +kernel
theorem dX7_numberIn_0 : decode cX7_numberIn 0 = .ok (.aload_n 0, 1) := by decide +kernel
theorem dX7_numberIn_1 : decode cX7_numberIn 1 = .ok (.ifnull 13, 3) := by decide +kernel
theorem dX7_numberIn_4 : decode cX7_numberIn 4 = .ok (.iload_n 1, 1) := by decide +kernel
theorem dX7_numberIn_5 : decode cX7_numberIn 5 = .ok (.ifCond .lt 9, 3) := by decide +kernel
theorem dX7_numberIn_8 : decode cX7_numberIn 8 = .ok (.iload_n 1, 1) := by decide +kernel
theorem dX7_numberIn_9 : decode cX7_numberIn 9 = .ok (.aload_n 0, 1) := by decide +kernel
theorem dX7_numberIn_10 : decode cX7_numberIn 10 = .ok (.arraylength, 1) := by decide +kernel
theorem dX7_numberIn_11 : decode cX7_numberIn 11 = .ok (.if_icmp .lt 7, 3) := by decide +kernel
theorem dX7_numberIn_14 : decode cX7_numberIn 14 = .ok (.iconst 0, 1) := by decide +kernel
theorem dX7_numberIn_15 : decode cX7_numberIn 15 = .ok (.goto 6, 3) := by decide +kernel
theorem dX7_numberIn_18 : decode cX7_numberIn 18 = .ok (.aload_n 0, 1) := by decide +kernel
theorem dX7_numberIn_19 : decode cX7_numberIn 19 = .ok (.iload_n 1, 1) := by decide +kernel
theorem dX7_numberIn_20 : decode cX7_numberIn 20 = .ok (.iaload, 1) := by decide +kernel
theorem dX7_numberIn_21 : decode cX7_numberIn 21 = .ok (.ireturn, 1) := by decide +kernel
theorem dX7_setIn_0 : decode cX7_setIn 0 = .ok (.aload_n 0, 1) := by decide +kernel
theorem dX7_setIn_1 : decode cX7_setIn 1 = .ok (.ifnull 17, 3) := by decide +kernel
theorem dX7_setIn_4 : decode cX7_setIn 4 = .ok (.iload_n 1, 1) := by decide +kernel
theorem dX7_setIn_5 : decode cX7_setIn 5 = .ok (.ifCond .lt 13, 3) := by decide +kernel
theorem dX7_setIn_8 : decode cX7_setIn 8 = .ok (.iload_n 1, 1) := by decide +kernel
theorem dX7_setIn_9 : decode cX7_setIn 9 = .ok (.aload_n 0, 1) := by decide +kernel
theorem dX7_setIn_10 : decode cX7_setIn 10 = .ok (.arraylength, 1) := by decide +kernel
theorem dX7_setIn_11 : decode cX7_setIn 11 = .ok (.if_icmp .ge 7, 3) := by decide +kernel
theorem dX7_setIn_14 : decode cX7_setIn 14 = .ok (.aload_n 0, 1) := by decide +kernel
theorem dX7_setIn_15 : decode cX7_setIn 15 = .ok (.iload_n 1, 1) := by decide +kernel
theorem dX7_setIn_16 : decode cX7_setIn 16 = .ok (.iload_n 2, 1) := by decide +kernel
theorem dX7_setIn_17 : decode cX7_setIn 17 = .ok (.iastore, 1) := by decide +kernel
theorem dX7_setIn_18 : decode cX7_setIn 18 = .ok (.return_, 1) := by decide +kernel
theorem dX7_copyAll_0 : decode cX7_copyAll 0 = .ok (.aload_n 0, 1) := by decide +kernel
theorem dX7_copyAll_1 : decode cX7_copyAll 1 = .ok (.ifnull 7, 3) := by decide +kernel
theorem dX7_copyAll_4 : decode cX7_copyAll 4 = .ok (.aload_n 1, 1) := by decide +kernel
theorem dX7_copyAll_5 : decode cX7_copyAll 5 = .ok (.ifnonnull 4, 3) := by decide +kernel
theorem dX7_copyAll_8 : decode cX7_copyAll 8 = .ok (.return_, 1) := by decide +kernel
theorem dX7_copyAll_9 : decode cX7_copyAll 9 = .ok (.iconst 0, 1) := by decide +kernel
theorem dX7_copyAll_10 : decode cX7_copyAll 10 = .ok (.istore_n 2, 1) := by decide +kernel
theorem dX7_copyAll_11 : decode cX7_copyAll 11 = .ok (.iload_n 2, 1) := by decide +kernel
theorem dX7_copyAll_12 : decode cX7_copyAll 12 = .ok (.aload_n 0, 1) := by decide +kernel
theorem dX7_copyAll_13 : decode cX7_copyAll 13 = .ok (.arraylength, 1) := by decide +kernel
theorem dX7_copyAll_14 : decode cX7_copyAll 14 = .ok (.if_icmp .ge 21, 3) := by decide +kernel
theorem dX7_copyAll_17 : decode cX7_copyAll 17 = .ok (.iload_n 2, 1) := by decide +kernel
theorem dX7_copyAll_18 : decode cX7_copyAll 18 = .ok (.aload_n 1, 1) := by decide +kernel
theorem dX7_copyAll_19 : decode cX7_copyAll 19 = .ok (.arraylength, 1) := by decide +kernel
theorem dX7_copyAll_20 : decode cX7_copyAll 20 = .ok (.if_icmp .ge 15, 3) := by decide +kernel
theorem dX7_copyAll_23 : decode cX7_copyAll 23 = .ok (.aload_n 1, 1) := by decide +kernel
theorem dX7_copyAll_24 : decode cX7_copyAll 24 = .ok (.iload_n 2, 1) := by decide +kernel
theorem dX7_copyAll_25 : decode cX7_copyAll 25 = .ok (.aload_n 0, 1) := by decide +kernel
theorem dX7_copyAll_26 : decode cX7_copyAll 26 = .ok (.iload_n 2, 1) := by decide +kernel
theorem dX7_copyAll_27 : decode cX7_copyAll 27 = .ok (.iaload, 1) := by decide +kernel
theorem dX7_copyAll_28 : decode cX7_copyAll 28 = .ok (.iastore, 1) := by decide +kernel
theorem dX7_copyAll_29 : decode cX7_copyAll 29 = .ok (.iinc 2 1, 3) := by decide +kernel
theorem dX7_copyAll_32 : decode cX7_copyAll 32 = .ok (.goto (-21), 3) := by decide +kernel
theorem dX7_copyAll_35 : decode cX7_copyAll 35 = .ok (.return_, 1) := by decide +kernel
theorem dJ9_min_7cf53_0 : decode cJ9_min_7cf53 0 = .ok (.iload_n 0, 1) := by decide +kernel
theorem dJ9_min_7cf53_1 : decode cJ9_min_7cf53 1 = .ok (.iload_n 1, 1) := by decide +kernel
theorem dJ9_min_7cf53_2 : decode cJ9_min_7cf53 2 = .ok (.if_icmp .gt 7, 3) := by decide +kernel
theorem dJ9_min_7cf53_5 : decode cJ9_min_7cf53 5 = .ok (.iload_n 0, 1) := by decide +kernel
theorem dJ9_min_7cf53_6 : decode cJ9_min_7cf53 6 = .ok (.goto 4, 3) := by decide +kernel
theorem dJ9_min_7cf53_9 : decode cJ9_min_7cf53 9 = .ok (.iload_n 1, 1) := by decide +kernel
theorem dJ9_min_7cf53_10 : decode cJ9_min_7cf53 10 = .ok (.ireturn, 1) := by decide +kernel
theorem dL_part_0 : decode cL_part 0 = .ok (.iload_n 0, 1) := by decide +kernel
theorem dL_part_1 : decode cL_part 1 = .ok (.ldc 7, 2) := by decide +kernel
theorem dL_part_3 : decode cL_part 3 = .ok (.iand, 1) := by decide +kernel
theorem dL_part_4 : decode cL_part 4 = .ok (.iload_n 1, 1) := by decide +kernel
theorem dL_part_5 : decode cL_part 5 = .ok (.irem, 1) := by decide +kernel
theorem dL_part_6 : decode cL_part 6 = .ok (.ireturn, 1) := by decide +kernel
theorem dL_drawn_0 : decode cL_drawn 0 = .ok (.aload_n 0, 1) := by decide +kernel
theorem dL_drawn_1 : decode cL_drawn 1 = .ok (.arraylength, 1) := by decide +kernel
theorem dL_drawn_2 : decode cL_drawn 2 = .ok (.ifCond .ne 13, 3) := by decide +kernel
theorem dL_drawn_5 : decode cL_drawn 5 = .ok (.sipush 7919, 3) := by decide +kernel
theorem dL_drawn_8 : decode cL_drawn 8 = .ok (.iload_n 1, 1) := by decide +kernel
theorem dL_drawn_9 : decode cL_drawn 9 = .ok (.imul, 1) := by decide +kernel
theorem dL_drawn_10 : decode cL_drawn 10 = .ok (.iconst 3, 1) := by decide +kernel
theorem dL_drawn_11 : decode cL_drawn 11 = .ok (.iadd, 1) := by decide +kernel
theorem dL_drawn_12 : decode cL_drawn 12 = .ok (.goto 27, 3) := by decide +kernel
theorem dL_drawn_15 : decode cL_drawn 15 = .ok (.aload_n 0, 1) := by decide +kernel
theorem dL_drawn_16 : decode cL_drawn 16 = .ok (.iload_n 1, 1) := by decide +kernel
theorem dL_drawn_17 : decode cL_drawn 17 = .ok (.aload_n 0, 1) := by decide +kernel
theorem dL_drawn_18 : decode cL_drawn 18 = .ok (.arraylength, 1) := by decide +kernel
theorem dL_drawn_19 : decode cL_drawn 19 = .ok (.irem, 1) := by decide +kernel
theorem dL_drawn_20 : decode cL_drawn 20 = .ok (.iaload, 1) := by decide +kernel
theorem dL_drawn_21 : decode cL_drawn 21 = .ok (.iload_n 1, 1) := by decide +kernel
theorem dL_drawn_22 : decode cL_drawn 22 = .ok (.bipush 7, 2) := by decide +kernel
theorem dL_drawn_24 : decode cL_drawn 24 = .ok (.irem, 1) := by decide +kernel
theorem dL_drawn_25 : decode cL_drawn 25 = .ok (.ishr, 1) := by decide +kernel
theorem dL_drawn_26 : decode cL_drawn 26 = .ok (.iload_n 1, 1) := by decide +kernel
theorem dL_drawn_27 : decode cL_drawn 27 = .ok (.aload_n 0, 1) := by decide +kernel
theorem dL_drawn_28 : decode cL_drawn 28 = .ok (.arraylength, 1) := by decide +kernel
theorem dL_drawn_29 : decode cL_drawn 29 = .ok (.idiv, 1) := by decide +kernel
theorem dL_drawn_30 : decode cL_drawn 30 = .ok (.bipush 31, 2) := by decide +kernel
theorem dL_drawn_32 : decode cL_drawn 32 = .ok (.imul, 1) := by decide +kernel
theorem dL_drawn_33 : decode cL_drawn 33 = .ok (.ixor, 1) := by decide +kernel
theorem dL_drawn_34 : decode cL_drawn 34 = .ok (.iload_n 1, 1) := by decide +kernel
theorem dL_drawn_35 : decode cL_drawn 35 = .ok (.ldc 8, 2) := by decide +kernel
theorem dL_drawn_37 : decode cL_drawn 37 = .ok (.imul, 1) := by decide +kernel
theorem dL_drawn_38 : decode cL_drawn 38 = .ok (.ixor, 1) := by decide +kernel
theorem dL_drawn_39 : decode cL_drawn 39 = .ok (.ireturn, 1) := by decide +kernel
theorem dL_call_0 : decode cL_call 0 = .ok (.iload_n 1, 1) := by decide +kernel
theorem dL_call_1 : decode cL_call 1 = .ok (.ifCond .ne 12, 3) := by decide +kernel
theorem dL_call_4 : decode cL_call 4 = .ok (.aload_n 0, 1) := by decide +kernel
theorem dL_call_5 : decode cL_call 5 = .ok (.iload_n 2, 1) := by decide +kernel
theorem dL_call_6 : decode cL_call 6 = .ok (.iload_n 3, 1) := by decide +kernel
theorem dL_call_7 : decode cL_call 7 = .ok (.invokevirtual 9, 3) := by decide +kernel
theorem dL_call_10 : decode cL_call 10 = .ok (.goto 264, 3) := by decide +kernel
theorem dL_call_13 : decode cL_call 13 = .ok (.iload_n 1, 1) := by decide +kernel
theorem dL_call_14 : decode cL_call 14 = .ok (.iconst 1, 1) := by decide +kernel
theorem dL_call_15 : decode cL_call 15 = .ok (.if_icmp .ne 14, 3) := by decide +kernel
theorem dL_call_18 : decode cL_call 18 = .ok (.aload_n 0, 1) := by decide +kernel
theorem dL_call_19 : decode cL_call 19 = .ok (.iload_n 2, 1) := by decide +kernel
theorem dL_call_20 : decode cL_call 20 = .ok (.iload_n 3, 1) := by decide +kernel
theorem dL_call_21 : decode cL_call 21 = .ok (.iload 4, 2) := by decide +kernel
theorem dL_call_23 : decode cL_call 23 = .ok (.invokevirtual 15, 3) := by decide +kernel
theorem dL_call_26 : decode cL_call 26 = .ok (.goto 248, 3) := by decide +kernel
theorem dL_call_29 : decode cL_call 29 = .ok (.iload_n 1, 1) := by decide +kernel
theorem dL_call_30 : decode cL_call 30 = .ok (.iconst 2, 1) := by decide +kernel
theorem dL_call_31 : decode cL_call 31 = .ok (.if_icmp .ne 16, 3) := by decide +kernel
theorem dL_call_34 : decode cL_call 34 = .ok (.aload_n 0, 1) := by decide +kernel
theorem dL_call_35 : decode cL_call 35 = .ok (.iload_n 2, 1) := by decide +kernel
theorem dL_call_36 : decode cL_call 36 = .ok (.iload_n 3, 1) := by decide +kernel
theorem dL_call_37 : decode cL_call 37 = .ok (.iload 4, 2) := by decide +kernel
theorem dL_call_39 : decode cL_call 39 = .ok (.iload 5, 2) := by decide +kernel
theorem dL_call_41 : decode cL_call 41 = .ok (.invokevirtual 19, 3) := by decide +kernel
theorem dL_call_44 : decode cL_call 44 = .ok (.goto 230, 3) := by decide +kernel
theorem dL_call_47 : decode cL_call 47 = .ok (.iload_n 1, 1) := by decide +kernel
theorem dL_call_48 : decode cL_call 48 = .ok (.iconst 3, 1) := by decide +kernel
theorem dL_call_49 : decode cL_call 49 = .ok (.if_icmp .ne 11, 3) := by decide +kernel
theorem dL_call_52 : decode cL_call 52 = .ok (.aload_n 0, 1) := by decide +kernel
theorem dL_call_53 : decode cL_call 53 = .ok (.iload_n 2, 1) := by decide +kernel
theorem dL_call_54 : decode cL_call 54 = .ok (.invokevirtual 23, 3) := by decide +kernel
theorem dL_call_57 : decode cL_call 57 = .ok (.goto 217, 3) := by decide +kernel
theorem dL_call_60 : decode cL_call 60 = .ok (.iload_n 1, 1) := by decide +kernel
theorem dL_call_61 : decode cL_call 61 = .ok (.iconst 4, 1) := by decide +kernel
theorem dL_call_62 : decode cL_call 62 = .ok (.if_icmp .ne 11, 3) := by decide +kernel
theorem dL_call_65 : decode cL_call 65 = .ok (.aload_n 0, 1) := by decide +kernel
theorem dL_call_66 : decode cL_call 66 = .ok (.iload_n 2, 1) := by decide +kernel
theorem dL_call_67 : decode cL_call 67 = .ok (.invokevirtual 27, 3) := by decide +kernel
theorem dL_call_70 : decode cL_call 70 = .ok (.goto 204, 3) := by decide +kernel
theorem dL_call_73 : decode cL_call 73 = .ok (.iload_n 1, 1) := by decide +kernel
theorem dL_call_74 : decode cL_call 74 = .ok (.iconst 5, 1) := by decide +kernel
theorem dL_call_75 : decode cL_call 75 = .ok (.if_icmp .ne 10, 3) := by decide +kernel
theorem dL_call_78 : decode cL_call 78 = .ok (.aload_n 0, 1) := by decide +kernel
theorem dL_call_79 : decode cL_call 79 = .ok (.invokevirtual 30, 3) := by decide +kernel
theorem dL_call_82 : decode cL_call 82 = .ok (.goto 192, 3) := by decide +kernel
theorem dL_call_85 : decode cL_call 85 = .ok (.iload_n 1, 1) := by decide +kernel
theorem dL_call_86 : decode cL_call 86 = .ok (.bipush 6, 2) := by decide +kernel
theorem dL_call_88 : decode cL_call 88 = .ok (.if_icmp .ne 11, 3) := by decide +kernel
theorem dL_call_91 : decode cL_call 91 = .ok (.aload_n 0, 1) := by decide +kernel
theorem dL_call_92 : decode cL_call 92 = .ok (.iload_n 2, 1) := by decide +kernel
theorem dL_call_93 : decode cL_call 93 = .ok (.invokevirtual 34, 3) := by decide +kernel
theorem dL_call_96 : decode cL_call 96 = .ok (.goto 178, 3) := by decide +kernel
theorem dL_call_99 : decode cL_call 99 = .ok (.iload_n 1, 1) := by decide +kernel
theorem dL_call_100 : decode cL_call 100 = .ok (.bipush 7, 2) := by decide +kernel
theorem dL_call_102 : decode cL_call 102 = .ok (.if_icmp .ne 10, 3) := by decide +kernel
theorem dL_call_105 : decode cL_call 105 = .ok (.aload_n 0, 1) := by decide +kernel
theorem dL_call_106 : decode cL_call 106 = .ok (.invokevirtual 37, 3) := by decide +kernel
theorem dL_call_109 : decode cL_call 109 = .ok (.goto 165, 3) := by decide +kernel
theorem dL_call_112 : decode cL_call 112 = .ok (.iload_n 1, 1) := by decide +kernel
theorem dL_call_113 : decode cL_call 113 = .ok (.bipush 8, 2) := by decide +kernel
theorem dL_call_115 : decode cL_call 115 = .ok (.if_icmp .ne 11, 3) := by decide +kernel
theorem dL_call_118 : decode cL_call 118 = .ok (.aload_n 0, 1) := by decide +kernel
theorem dL_call_119 : decode cL_call 119 = .ok (.iload_n 2, 1) := by decide +kernel
theorem dL_call_120 : decode cL_call 120 = .ok (.invokevirtual 40, 3) := by decide +kernel
theorem dL_call_123 : decode cL_call 123 = .ok (.goto 151, 3) := by decide +kernel
theorem dL_call_126 : decode cL_call 126 = .ok (.iload_n 1, 1) := by decide +kernel
theorem dL_call_127 : decode cL_call 127 = .ok (.bipush 9, 2) := by decide +kernel
theorem dL_call_129 : decode cL_call 129 = .ok (.if_icmp .ne 11, 3) := by decide +kernel
theorem dL_call_132 : decode cL_call 132 = .ok (.aload_n 0, 1) := by decide +kernel
theorem dL_call_133 : decode cL_call 133 = .ok (.iload_n 2, 1) := by decide +kernel
theorem dL_call_134 : decode cL_call 134 = .ok (.invokevirtual 43, 3) := by decide +kernel
theorem dL_call_137 : decode cL_call 137 = .ok (.goto 137, 3) := by decide +kernel
theorem dL_call_140 : decode cL_call 140 = .ok (.iload_n 1, 1) := by decide +kernel
theorem dL_call_141 : decode cL_call 141 = .ok (.bipush 10, 2) := by decide +kernel
theorem dL_call_143 : decode cL_call 143 = .ok (.if_icmp .ne 10, 3) := by decide +kernel
theorem dL_call_146 : decode cL_call 146 = .ok (.aload_n 0, 1) := by decide +kernel
theorem dL_call_147 : decode cL_call 147 = .ok (.invokevirtual 46, 3) := by decide +kernel
theorem dL_call_150 : decode cL_call 150 = .ok (.goto 124, 3) := by decide +kernel
theorem dL_call_153 : decode cL_call 153 = .ok (.iload_n 1, 1) := by decide +kernel
theorem dL_call_154 : decode cL_call 154 = .ok (.bipush 11, 2) := by decide +kernel
theorem dL_call_156 : decode cL_call 156 = .ok (.if_icmp .ne 12, 3) := by decide +kernel
theorem dL_call_159 : decode cL_call 159 = .ok (.aload_n 0, 1) := by decide +kernel
theorem dL_call_160 : decode cL_call 160 = .ok (.iload_n 2, 1) := by decide +kernel
theorem dL_call_161 : decode cL_call 161 = .ok (.iload_n 3, 1) := by decide +kernel
theorem dL_call_162 : decode cL_call 162 = .ok (.invokevirtual 49, 3) := by decide +kernel
theorem dL_call_165 : decode cL_call 165 = .ok (.goto 109, 3) := by decide +kernel
theorem dL_call_168 : decode cL_call 168 = .ok (.iload_n 1, 1) := by decide +kernel
theorem dL_call_169 : decode cL_call 169 = .ok (.bipush 12, 2) := by decide +kernel
theorem dL_call_171 : decode cL_call 171 = .ok (.if_icmp .ne 12, 3) := by decide +kernel
theorem dL_call_174 : decode cL_call 174 = .ok (.aload_n 0, 1) := by decide +kernel
theorem dL_call_175 : decode cL_call 175 = .ok (.iload_n 2, 1) := by decide +kernel
theorem dL_call_176 : decode cL_call 176 = .ok (.iload_n 3, 1) := by decide +kernel
theorem dL_call_177 : decode cL_call 177 = .ok (.invokevirtual 52, 3) := by decide +kernel
theorem dL_call_180 : decode cL_call 180 = .ok (.goto 94, 3) := by decide +kernel
theorem dL_call_183 : decode cL_call 183 = .ok (.iload_n 1, 1) := by decide +kernel
theorem dL_call_184 : decode cL_call 184 = .ok (.bipush 13, 2) := by decide +kernel
theorem dL_call_186 : decode cL_call 186 = .ok (.if_icmp .ne 11, 3) := by decide +kernel
theorem dL_call_189 : decode cL_call 189 = .ok (.aload_n 0, 1) := by decide +kernel
theorem dL_call_190 : decode cL_call 190 = .ok (.iload_n 2, 1) := by decide +kernel
theorem dL_call_191 : decode cL_call 191 = .ok (.invokevirtual 55, 3) := by decide +kernel
theorem dL_call_194 : decode cL_call 194 = .ok (.goto 80, 3) := by decide +kernel
theorem dL_call_197 : decode cL_call 197 = .ok (.iload_n 1, 1) := by decide +kernel
theorem dL_call_198 : decode cL_call 198 = .ok (.bipush 14, 2) := by decide +kernel
theorem dL_call_200 : decode cL_call 200 = .ok (.if_icmp .ne 11, 3) := by decide +kernel
theorem dL_call_203 : decode cL_call 203 = .ok (.aload_n 0, 1) := by decide +kernel
theorem dL_call_204 : decode cL_call 204 = .ok (.iload_n 2, 1) := by decide +kernel
theorem dL_call_205 : decode cL_call 205 = .ok (.invokevirtual 58, 3) := by decide +kernel
theorem dL_call_208 : decode cL_call 208 = .ok (.goto 66, 3) := by decide +kernel
theorem dL_call_211 : decode cL_call 211 = .ok (.iload_n 1, 1) := by decide +kernel
theorem dL_call_212 : decode cL_call 212 = .ok (.bipush 15, 2) := by decide +kernel
theorem dL_call_214 : decode cL_call 214 = .ok (.if_icmp .ne 11, 3) := by decide +kernel
theorem dL_call_217 : decode cL_call 217 = .ok (.aload_n 0, 1) := by decide +kernel
theorem dL_call_218 : decode cL_call 218 = .ok (.iload_n 2, 1) := by decide +kernel
theorem dL_call_219 : decode cL_call 219 = .ok (.invokevirtual 61, 3) := by decide +kernel
theorem dL_call_222 : decode cL_call 222 = .ok (.goto 52, 3) := by decide +kernel
theorem dL_call_225 : decode cL_call 225 = .ok (.iload_n 1, 1) := by decide +kernel
theorem dL_call_226 : decode cL_call 226 = .ok (.bipush 16, 2) := by decide +kernel
theorem dL_call_228 : decode cL_call 228 = .ok (.if_icmp .ne 11, 3) := by decide +kernel
theorem dL_call_231 : decode cL_call 231 = .ok (.aload_n 0, 1) := by decide +kernel
theorem dL_call_232 : decode cL_call 232 = .ok (.iload_n 2, 1) := by decide +kernel
theorem dL_call_233 : decode cL_call 233 = .ok (.invokevirtual 64, 3) := by decide +kernel
theorem dL_call_236 : decode cL_call 236 = .ok (.goto 38, 3) := by decide +kernel
theorem dL_call_239 : decode cL_call 239 = .ok (.iload_n 1, 1) := by decide +kernel
theorem dL_call_240 : decode cL_call 240 = .ok (.bipush 17, 2) := by decide +kernel
theorem dL_call_242 : decode cL_call 242 = .ok (.if_icmp .ne 12, 3) := by decide +kernel
theorem dL_call_245 : decode cL_call 245 = .ok (.aload_n 0, 1) := by decide +kernel
theorem dL_call_246 : decode cL_call 246 = .ok (.iload_n 2, 1) := by decide +kernel
theorem dL_call_247 : decode cL_call 247 = .ok (.iload_n 3, 1) := by decide +kernel
theorem dL_call_248 : decode cL_call 248 = .ok (.invokevirtual 67, 3) := by decide +kernel
theorem dL_call_251 : decode cL_call 251 = .ok (.goto 23, 3) := by decide +kernel
theorem dL_call_254 : decode cL_call 254 = .ok (.iload_n 1, 1) := by decide +kernel
theorem dL_call_255 : decode cL_call 255 = .ok (.bipush 18, 2) := by decide +kernel
theorem dL_call_257 : decode cL_call 257 = .ok (.if_icmp .ne 12, 3) := by decide +kernel
theorem dL_call_260 : decode cL_call 260 = .ok (.aload_n 0, 1) := by decide +kernel
theorem dL_call_261 : decode cL_call 261 = .ok (.iload_n 2, 1) := by decide +kernel
theorem dL_call_262 : decode cL_call 262 = .ok (.iload_n 3, 1) := by decide +kernel
theorem dL_call_263 : decode cL_call 263 = .ok (.invokevirtual 70, 3) := by decide +kernel
theorem dL_call_266 : decode cL_call 266 = .ok (.goto 8, 3) := by decide +kernel
theorem dL_call_269 : decode cL_call 269 = .ok (.aload_n 0, 1) := by decide +kernel
theorem dL_call_270 : decode cL_call 270 = .ok (.iload_n 2, 1) := by decide +kernel
theorem dL_call_271 : decode cL_call 271 = .ok (.invokevirtual 73, 3) := by decide +kernel
theorem dL_call_274 : decode cL_call 274 = .ok (.ireturn, 1) := by decide +kernel
theorem dL_call_275 : decode cL_call 275 = .ok (.astore 6, 2) := by decide +kernel
theorem dL_call_277 : decode cL_call 277 = .ok (.bipush (-11), 2) := by decide +kernel
theorem dL_call_279 : decode cL_call 279 = .ok (.ireturn, 1) := by decide +kernel
theorem dL_call_280 : decode cL_call 280 = .ok (.astore 6, 2) := by decide +kernel
theorem dL_call_282 : decode cL_call 282 = .ok (.bipush (-12), 2) := by decide +kernel
theorem dL_call_284 : decode cL_call 284 = .ok (.ireturn, 1) := by decide +kernel
theorem dL_call_285 : decode cL_call 285 = .ok (.astore 6, 2) := by decide +kernel
theorem dL_call_287 : decode cL_call 287 = .ok (.bipush (-13), 2) := by decide +kernel
theorem dL_call_289 : decode cL_call 289 = .ok (.ireturn, 1) := by decide +kernel
theorem dL_seen_0 : decode cL_seen 0 = .ok (.ldc2_w 82, 3) := by decide +kernel
theorem dL_seen_3 : decode cL_seen 3 = .ok (.lstore_n 1, 1) := by decide +kernel
theorem dL_seen_4 : decode cL_seen 4 = .ok (.iconst 0, 1) := by decide +kernel
theorem dL_seen_5 : decode cL_seen 5 = .ok (.istore_n 3, 1) := by decide +kernel
theorem dL_seen_6 : decode cL_seen 6 = .ok (.iload_n 3, 1) := by decide +kernel
theorem dL_seen_7 : decode cL_seen 7 = .ok (.bipush 8, 2) := by decide +kernel
theorem dL_seen_9 : decode cL_seen 9 = .ok (.if_icmp .ge 22, 3) := by decide +kernel
theorem dL_seen_12 : decode cL_seen 12 = .ok (.ldc2_w 84, 3) := by decide +kernel
theorem dL_seen_15 : decode cL_seen 15 = .ok (.lload_n 1, 1) := by decide +kernel
theorem dL_seen_16 : decode cL_seen 16 = .ok (.lmul, 1) := by decide +kernel
theorem dL_seen_17 : decode cL_seen 17 = .ok (.aload_n 0, 1) := by decide +kernel
theorem dL_seen_18 : decode cL_seen 18 = .ok (.iload_n 3, 1) := by decide +kernel
theorem dL_seen_19 : decode cL_seen 19 = .ok (.invokevirtual 61, 3) := by decide +kernel
theorem dL_seen_22 : decode cL_seen 22 = .ok (.i2l, 1) := by decide +kernel
theorem dL_seen_23 : decode cL_seen 23 = .ok (.ladd, 1) := by decide +kernel
theorem dL_seen_24 : decode cL_seen 24 = .ok (.lstore_n 1, 1) := by decide +kernel
theorem dL_seen_25 : decode cL_seen 25 = .ok (.iinc 3 1, 3) := by decide +kernel
theorem dL_seen_28 : decode cL_seen 28 = .ok (.goto (-22), 3) := by decide +kernel
theorem dL_seen_31 : decode cL_seen 31 = .ok (.iconst 0, 1) := by decide +kernel
theorem dL_seen_32 : decode cL_seen 32 = .ok (.istore_n 3, 1) := by decide +kernel
theorem dL_seen_33 : decode cL_seen 33 = .ok (.iload_n 3, 1) := by decide +kernel
theorem dL_seen_34 : decode cL_seen 34 = .ok (.bipush 10, 2) := by decide +kernel
theorem dL_seen_36 : decode cL_seen 36 = .ok (.aload_n 0, 1) := by decide +kernel
theorem dL_seen_37 : decode cL_seen 37 = .ok (.iconst 0, 1) := by decide +kernel
theorem dL_seen_38 : decode cL_seen 38 = .ok (.invokevirtual 61, 3) := by decide +kernel
theorem dL_seen_41 : decode cL_seen 41 = .ok (.imul, 1) := by decide +kernel
theorem dL_seen_42 : decode cL_seen 42 = .ok (.if_icmp .ge 46, 3) := by decide +kernel
theorem dL_seen_45 : decode cL_seen 45 = .ok (.ldc2_w 84, 3) := by decide +kernel
theorem dL_seen_48 : decode cL_seen 48 = .ok (.lload_n 1, 1) := by decide +kernel
theorem dL_seen_49 : decode cL_seen 49 = .ok (.lmul, 1) := by decide +kernel
theorem dL_seen_50 : decode cL_seen 50 = .ok (.iload_n 3, 1) := by decide +kernel
theorem dL_seen_51 : decode cL_seen 51 = .ok (.bipush 10, 2) := by decide +kernel
theorem dL_seen_53 : decode cL_seen 53 = .ok (.irem, 1) := by decide +kernel
theorem dL_seen_54 : decode cL_seen 54 = .ok (.aload_n 0, 1) := by decide +kernel
theorem dL_seen_55 : decode cL_seen 55 = .ok (.iconst 1, 1) := by decide +kernel
theorem dL_seen_56 : decode cL_seen 56 = .ok (.invokevirtual 61, 3) := by decide +kernel
theorem dL_seen_59 : decode cL_seen 59 = .ok (.if_icmp .ge 18, 3) := by decide +kernel
theorem dL_seen_62 : decode cL_seen 62 = .ok (.aload_n 0, 1) := by decide +kernel
theorem dL_seen_63 : decode cL_seen 63 = .ok (.iload_n 3, 1) := by decide +kernel
theorem dL_seen_64 : decode cL_seen 64 = .ok (.bipush 10, 2) := by decide +kernel
theorem dL_seen_66 : decode cL_seen 66 = .ok (.idiv, 1) := by decide +kernel
theorem dL_seen_67 : decode cL_seen 67 = .ok (.iload_n 3, 1) := by decide +kernel
theorem dL_seen_68 : decode cL_seen 68 = .ok (.bipush 10, 2) := by decide +kernel
theorem dL_seen_70 : decode cL_seen 70 = .ok (.irem, 1) := by decide +kernel
theorem dL_seen_71 : decode cL_seen 71 = .ok (.invokevirtual 49, 3) := by decide +kernel
theorem dL_seen_74 : decode cL_seen 74 = .ok (.goto 5, 3) := by decide +kernel
theorem dL_seen_77 : decode cL_seen 77 = .ok (.bipush 7, 2) := by decide +kernel
theorem dL_seen_79 : decode cL_seen 79 = .ok (.i2l, 1) := by decide +kernel
theorem dL_seen_80 : decode cL_seen 80 = .ok (.ladd, 1) := by decide +kernel
theorem dL_seen_81 : decode cL_seen 81 = .ok (.lstore_n 1, 1) := by decide +kernel
theorem dL_seen_82 : decode cL_seen 82 = .ok (.iinc 3 1, 3) := by decide +kernel
theorem dL_seen_85 : decode cL_seen 85 = .ok (.goto (-52), 3) := by decide +kernel
theorem dL_seen_88 : decode cL_seen 88 = .ok (.iconst 0, 1) := by decide +kernel
theorem dL_seen_89 : decode cL_seen 89 = .ok (.istore_n 3, 1) := by decide +kernel
theorem dL_seen_90 : decode cL_seen 90 = .ok (.iload_n 3, 1) := by decide +kernel
theorem dL_seen_91 : decode cL_seen 91 = .ok (.aload_n 0, 1) := by decide +kernel
theorem dL_seen_92 : decode cL_seen 92 = .ok (.iconst 2, 1) := by decide +kernel
theorem dL_seen_93 : decode cL_seen 93 = .ok (.invokevirtual 61, 3) := by decide +kernel
theorem dL_seen_96 : decode cL_seen 96 = .ok (.if_icmp .ge 22, 3) := by decide +kernel
theorem dL_seen_99 : decode cL_seen 99 = .ok (.ldc2_w 84, 3) := by decide +kernel
theorem dL_seen_102 : decode cL_seen 102 = .ok (.lload_n 1, 1) := by decide +kernel
theorem dL_seen_103 : decode cL_seen 103 = .ok (.lmul, 1) := by decide +kernel
theorem dL_seen_104 : decode cL_seen 104 = .ok (.aload_n 0, 1) := by decide +kernel
theorem dL_seen_105 : decode cL_seen 105 = .ok (.iload_n 3, 1) := by decide +kernel
theorem dL_seen_106 : decode cL_seen 106 = .ok (.invokevirtual 64, 3) := by decide +kernel
theorem dL_seen_109 : decode cL_seen 109 = .ok (.i2l, 1) := by decide +kernel
theorem dL_seen_110 : decode cL_seen 110 = .ok (.ladd, 1) := by decide +kernel
theorem dL_seen_111 : decode cL_seen 111 = .ok (.lstore_n 1, 1) := by decide +kernel
theorem dL_seen_112 : decode cL_seen 112 = .ok (.iinc 3 1, 3) := by decide +kernel
theorem dL_seen_115 : decode cL_seen 115 = .ok (.goto (-25), 3) := by decide +kernel
theorem dL_seen_118 : decode cL_seen 118 = .ok (.iconst 0, 1) := by decide +kernel
theorem dL_seen_119 : decode cL_seen 119 = .ok (.istore_n 3, 1) := by decide +kernel
theorem dL_seen_120 : decode cL_seen 120 = .ok (.iload_n 3, 1) := by decide +kernel
theorem dL_seen_121 : decode cL_seen 121 = .ok (.iconst 4, 1) := by decide +kernel
theorem dL_seen_122 : decode cL_seen 122 = .ok (.if_icmp .ge 45, 3) := by decide +kernel
theorem dL_seen_125 : decode cL_seen 125 = .ok (.ldc2_w 84, 3) := by decide +kernel
theorem dL_seen_128 : decode cL_seen 128 = .ok (.lload_n 1, 1) := by decide +kernel
theorem dL_seen_129 : decode cL_seen 129 = .ok (.lmul, 1) := by decide +kernel
theorem dL_seen_130 : decode cL_seen 130 = .ok (.ldc2_w 86, 3) := by decide +kernel
theorem dL_seen_133 : decode cL_seen 133 = .ok (.aload_n 0, 1) := by decide +kernel
theorem dL_seen_134 : decode cL_seen 134 = .ok (.iload_n 3, 1) := by decide +kernel
theorem dL_seen_135 : decode cL_seen 135 = .ok (.invokevirtual 58, 3) := by decide +kernel
theorem dL_seen_138 : decode cL_seen 138 = .ok (.i2l, 1) := by decide +kernel
theorem dL_seen_139 : decode cL_seen 139 = .ok (.lmul, 1) := by decide +kernel
theorem dL_seen_140 : decode cL_seen 140 = .ok (.ladd, 1) := by decide +kernel
theorem dL_seen_141 : decode cL_seen 141 = .ok (.iload_n 3, 1) := by decide +kernel
theorem dL_seen_142 : decode cL_seen 142 = .ok (.iconst 3, 1) := by decide +kernel
theorem dL_seen_143 : decode cL_seen 143 = .ok (.if_icmp .ge 11, 3) := by decide +kernel
theorem dL_seen_146 : decode cL_seen 146 = .ok (.aload_n 0, 1) := by decide +kernel
theorem dL_seen_147 : decode cL_seen 147 = .ok (.iload_n 3, 1) := by decide +kernel
theorem dL_seen_148 : decode cL_seen 148 = .ok (.invokevirtual 55, 3) := by decide +kernel
theorem dL_seen_151 : decode cL_seen 151 = .ok (.goto 7, 3) := by decide +kernel
theorem dL_seen_154 : decode cL_seen 154 = .ok (.aload_n 0, 1) := by decide +kernel
theorem dL_seen_155 : decode cL_seen 155 = .ok (.invokevirtual 88, 3) := by decide +kernel
theorem dL_seen_158 : decode cL_seen 158 = .ok (.i2l, 1) := by decide +kernel
theorem dL_seen_159 : decode cL_seen 159 = .ok (.ladd, 1) := by decide +kernel
theorem dL_seen_160 : decode cL_seen 160 = .ok (.lstore_n 1, 1) := by decide +kernel
theorem dL_seen_161 : decode cL_seen 161 = .ok (.iinc 3 1, 3) := by decide +kernel
theorem dL_seen_164 : decode cL_seen 164 = .ok (.goto (-44), 3) := by decide +kernel
theorem dL_seen_167 : decode cL_seen 167 = .ok (.lload_n 1, 1) := by decide +kernel
theorem dL_seen_168 : decode cL_seen 168 = .ok (.lreturn, 1) := by decide +kernel
theorem dL_far_0 : decode cL_far 0 = .ok (.iload_n 0, 1) := by decide +kernel
theorem dL_far_1 : decode cL_far 1 = .ok (.ifCond .ne 9, 3) := by decide +kernel
theorem dL_far_4 : decode cL_far 4 = .ok (.iload_n 1, 1) := by decide +kernel
theorem dL_far_5 : decode cL_far 5 = .ok (.iconst 1, 1) := by decide +kernel
theorem dL_far_6 : decode cL_far 6 = .ok (.isub, 1) := by decide +kernel
theorem dL_far_7 : decode cL_far 7 = .ok (.goto 26, 3) := by decide +kernel
theorem dL_far_10 : decode cL_far 10 = .ok (.iload_n 0, 1) := by decide +kernel
theorem dL_far_11 : decode cL_far 11 = .ok (.iconst 1, 1) := by decide +kernel
theorem dL_far_12 : decode cL_far 12 = .ok (.if_icmp .ne 9, 3) := by decide +kernel
theorem dL_far_15 : decode cL_far 15 = .ok (.iload_n 2, 1) := by decide +kernel
theorem dL_far_16 : decode cL_far 16 = .ok (.iconst 1, 1) := by decide +kernel
theorem dL_far_17 : decode cL_far 17 = .ok (.iadd, 1) := by decide +kernel
theorem dL_far_18 : decode cL_far 18 = .ok (.goto 15, 3) := by decide +kernel
theorem dL_far_21 : decode cL_far 21 = .ok (.iload_n 0, 1) := by decide +kernel
theorem dL_far_22 : decode cL_far 22 = .ok (.iconst 2, 1) := by decide +kernel
theorem dL_far_23 : decode cL_far 23 = .ok (.if_icmp .ne 8, 3) := by decide +kernel
theorem dL_far_26 : decode cL_far 26 = .ok (.ldc 91, 2) := by decide +kernel
theorem dL_far_28 : decode cL_far 28 = .ok (.goto 5, 3) := by decide +kernel
theorem dL_far_31 : decode cL_far 31 = .ok (.ldc 7, 2) := by decide +kernel
theorem dL_far_33 : decode cL_far 33 = .ok (.ireturn, 1) := by decide +kernel
theorem dL_refusesOne_0 : decode cL_refusesOne 0 = .ok (.iload_n 1, 1) := by decide +kernel
theorem dL_refusesOne_1 : decode cL_refusesOne 1 = .ok (.iconst 0, 1) := by decide +kernel
theorem dL_refusesOne_2 : decode cL_refusesOne 2 = .ok (.aload_n 0, 1) := by decide +kernel
theorem dL_refusesOne_3 : decode cL_refusesOne 3 = .ok (.iconst 0, 1) := by decide +kernel
theorem dL_refusesOne_4 : decode cL_refusesOne 4 = .ok (.invokevirtual 61, 3) := by decide +kernel
theorem dL_refusesOne_7 : decode cL_refusesOne 7 = .ok (.iconst 1, 1) := by decide +kernel
theorem dL_refusesOne_8 : decode cL_refusesOne 8 = .ok (.isub, 1) := by decide +kernel
theorem dL_refusesOne_9 : decode cL_refusesOne 9 = .ok (.invokestatic 92, 3) := by decide +kernel
theorem dL_refusesOne_12 : decode cL_refusesOne 12 = .ok (.istore_n 2, 1) := by decide +kernel
theorem dL_refusesOne_13 : decode cL_refusesOne 13 = .ok (.iload_n 1, 1) := by decide +kernel
theorem dL_refusesOne_14 : decode cL_refusesOne 14 = .ok (.iconst 0, 1) := by decide +kernel
theorem dL_refusesOne_15 : decode cL_refusesOne 15 = .ok (.aload_n 0, 1) := by decide +kernel
theorem dL_refusesOne_16 : decode cL_refusesOne 16 = .ok (.iconst 1, 1) := by decide +kernel
theorem dL_refusesOne_17 : decode cL_refusesOne 17 = .ok (.invokevirtual 61, 3) := by decide +kernel
theorem dL_refusesOne_20 : decode cL_refusesOne 20 = .ok (.iconst 1, 1) := by decide +kernel
theorem dL_refusesOne_21 : decode cL_refusesOne 21 = .ok (.isub, 1) := by decide +kernel
theorem dL_refusesOne_22 : decode cL_refusesOne 22 = .ok (.invokestatic 92, 3) := by decide +kernel
theorem dL_refusesOne_25 : decode cL_refusesOne 25 = .ok (.istore_n 3, 1) := by decide +kernel
theorem dL_refusesOne_26 : decode cL_refusesOne 26 = .ok (.iload_n 1, 1) := by decide +kernel
theorem dL_refusesOne_27 : decode cL_refusesOne 27 = .ok (.iconst 1, 1) := by decide +kernel
theorem dL_refusesOne_28 : decode cL_refusesOne 28 = .ok (.bipush 10, 2) := by decide +kernel
theorem dL_refusesOne_30 : decode cL_refusesOne 30 = .ok (.invokestatic 92, 3) := by decide +kernel
theorem dL_refusesOne_33 : decode cL_refusesOne 33 = .ok (.istore 4, 2) := by decide +kernel
theorem dL_refusesOne_35 : decode cL_refusesOne 35 = .ok (.aload_n 0, 1) := by decide +kernel
theorem dL_refusesOne_36 : decode cL_refusesOne 36 = .ok (.iconst 0, 1) := by decide +kernel
theorem dL_refusesOne_37 : decode cL_refusesOne 37 = .ok (.iload 4, 2) := by decide +kernel
theorem dL_refusesOne_39 : decode cL_refusesOne 39 = .ok (.iconst 1, 1) := by decide +kernel
theorem dL_refusesOne_40 : decode cL_refusesOne 40 = .ok (.iconst 0, 1) := by decide +kernel
theorem dL_refusesOne_41 : decode cL_refusesOne 41 = .ok (.iconst 0, 1) := by decide +kernel
theorem dL_refusesOne_42 : decode cL_refusesOne 42 = .ok (.invokestatic 97, 3) := by decide +kernel
theorem dL_refusesOne_45 : decode cL_refusesOne 45 = .ok (.bipush (-12), 2) := by decide +kernel
theorem dL_refusesOne_47 : decode cL_refusesOne 47 = .ok (.if_icmp .ne 267, 3) := by decide +kernel
theorem dL_refusesOne_50 : decode cL_refusesOne 50 = .ok (.aload_n 0, 1) := by decide +kernel
theorem dL_refusesOne_51 : decode cL_refusesOne 51 = .ok (.iconst 0, 1) := by decide +kernel
theorem dL_refusesOne_52 : decode cL_refusesOne 52 = .ok (.bipush 10, 2) := by decide +kernel
theorem dL_refusesOne_54 : decode cL_refusesOne 54 = .ok (.iload 4, 2) := by decide +kernel
theorem dL_refusesOne_56 : decode cL_refusesOne 56 = .ok (.iconst 0, 1) := by decide +kernel
theorem dL_refusesOne_57 : decode cL_refusesOne 57 = .ok (.iconst 0, 1) := by decide +kernel
theorem dL_refusesOne_58 : decode cL_refusesOne 58 = .ok (.invokestatic 97, 3) := by decide +kernel
theorem dL_refusesOne_61 : decode cL_refusesOne 61 = .ok (.bipush (-12), 2) := by decide +kernel
theorem dL_refusesOne_63 : decode cL_refusesOne 63 = .ok (.if_icmp .ne 251, 3) := by decide +kernel
theorem dL_refusesOne_66 : decode cL_refusesOne 66 = .ok (.aload_n 0, 1) := by decide +kernel
theorem dL_refusesOne_67 : decode cL_refusesOne 67 = .ok (.iconst 1, 1) := by decide +kernel
theorem dL_refusesOne_68 : decode cL_refusesOne 68 = .ok (.iload_n 2, 1) := by decide +kernel
theorem dL_refusesOne_69 : decode cL_refusesOne 69 = .ok (.iconst 0, 1) := by decide +kernel
theorem dL_refusesOne_70 : decode cL_refusesOne 70 = .ok (.iconst (-1), 1) := by decide +kernel
theorem dL_refusesOne_71 : decode cL_refusesOne 71 = .ok (.iconst 0, 1) := by decide +kernel
theorem dL_refusesOne_72 : decode cL_refusesOne 72 = .ok (.invokestatic 97, 3) := by decide +kernel
theorem dL_refusesOne_75 : decode cL_refusesOne 75 = .ok (.bipush (-11), 2) := by decide +kernel
theorem dL_refusesOne_77 : decode cL_refusesOne 77 = .ok (.if_icmp .ne 237, 3) := by decide +kernel
theorem dL_refusesOne_80 : decode cL_refusesOne 80 = .ok (.aload_n 0, 1) := by decide +kernel
theorem dL_refusesOne_81 : decode cL_refusesOne 81 = .ok (.iconst 1, 1) := by decide +kernel
theorem dL_refusesOne_82 : decode cL_refusesOne 82 = .ok (.iconst 0, 1) := by decide +kernel
theorem dL_refusesOne_83 : decode cL_refusesOne 83 = .ok (.iload_n 3, 1) := by decide +kernel
theorem dL_refusesOne_84 : decode cL_refusesOne 84 = .ok (.iconst (-1), 1) := by decide +kernel
theorem dL_refusesOne_85 : decode cL_refusesOne 85 = .ok (.iconst 0, 1) := by decide +kernel
theorem dL_refusesOne_86 : decode cL_refusesOne 86 = .ok (.invokestatic 97, 3) := by decide +kernel
theorem dL_refusesOne_89 : decode cL_refusesOne 89 = .ok (.bipush (-11), 2) := by decide +kernel
theorem dL_refusesOne_91 : decode cL_refusesOne 91 = .ok (.if_icmp .ne 223, 3) := by decide +kernel
theorem dL_refusesOne_94 : decode cL_refusesOne 94 = .ok (.aload_n 0, 1) := by decide +kernel
theorem dL_refusesOne_95 : decode cL_refusesOne 95 = .ok (.iconst 1, 1) := by decide +kernel
theorem dL_refusesOne_96 : decode cL_refusesOne 96 = .ok (.iconst 0, 1) := by decide +kernel
theorem dL_refusesOne_97 : decode cL_refusesOne 97 = .ok (.iconst 0, 1) := by decide +kernel
theorem dL_refusesOne_98 : decode cL_refusesOne 98 = .ok (.iload_n 1, 1) := by decide +kernel
theorem dL_refusesOne_99 : decode cL_refusesOne 99 = .ok (.iconst 0, 1) := by decide +kernel
theorem dL_refusesOne_100 : decode cL_refusesOne 100 = .ok (.sipush 9999, 3) := by decide +kernel
theorem dL_refusesOne_103 : decode cL_refusesOne 103 = .ok (.invokestatic 92, 3) := by decide +kernel
theorem dL_refusesOne_106 : decode cL_refusesOne 106 = .ok (.iconst 0, 1) := by decide +kernel
theorem dL_refusesOne_107 : decode cL_refusesOne 107 = .ok (.invokestatic 97, 3) := by decide +kernel
theorem dL_refusesOne_110 : decode cL_refusesOne 110 = .ok (.bipush (-12), 2) := by decide +kernel
theorem dL_refusesOne_112 : decode cL_refusesOne 112 = .ok (.if_icmp .ne 202, 3) := by decide +kernel
theorem dL_refusesOne_115 : decode cL_refusesOne 115 = .ok (.aload_n 0, 1) := by decide +kernel
theorem dL_refusesOne_116 : decode cL_refusesOne 116 = .ok (.iconst 2, 1) := by decide +kernel
theorem dL_refusesOne_117 : decode cL_refusesOne 117 = .ok (.iload_n 1, 1) := by decide +kernel
theorem dL_refusesOne_118 : decode cL_refusesOne 118 = .ok (.iconst 0, 1) := by decide +kernel
theorem dL_refusesOne_119 : decode cL_refusesOne 119 = .ok (.bipush 50, 2) := by decide +kernel
theorem dL_refusesOne_121 : decode cL_refusesOne 121 = .ok (.invokestatic 92, 3) := by decide +kernel
theorem dL_refusesOne_124 : decode cL_refusesOne 124 = .ok (.iconst 0, 1) := by decide +kernel
theorem dL_refusesOne_125 : decode cL_refusesOne 125 = .ok (.iconst 0, 1) := by decide +kernel
theorem dL_refusesOne_126 : decode cL_refusesOne 126 = .ok (.iconst 0, 1) := by decide +kernel
theorem dL_refusesOne_127 : decode cL_refusesOne 127 = .ok (.invokestatic 97, 3) := by decide +kernel
theorem dL_refusesOne_130 : decode cL_refusesOne 130 = .ok (.bipush (-12), 2) := by decide +kernel
theorem dL_refusesOne_132 : decode cL_refusesOne 132 = .ok (.if_icmp .ne 182, 3) := by decide +kernel
theorem dL_refusesOne_135 : decode cL_refusesOne 135 = .ok (.aload_n 0, 1) := by decide +kernel
theorem dL_refusesOne_136 : decode cL_refusesOne 136 = .ok (.iconst 2, 1) := by decide +kernel
theorem dL_refusesOne_137 : decode cL_refusesOne 137 = .ok (.bipush 50, 2) := by decide +kernel
theorem dL_refusesOne_139 : decode cL_refusesOne 139 = .ok (.iload_n 1, 1) := by decide +kernel
theorem dL_refusesOne_140 : decode cL_refusesOne 140 = .ok (.iconst 0, 1) := by decide +kernel
theorem dL_refusesOne_141 : decode cL_refusesOne 141 = .ok (.bipush 9, 2) := by decide +kernel
theorem dL_refusesOne_143 : decode cL_refusesOne 143 = .ok (.invokestatic 92, 3) := by decide +kernel
theorem dL_refusesOne_146 : decode cL_refusesOne 146 = .ok (.iconst 0, 1) := by decide +kernel
theorem dL_refusesOne_147 : decode cL_refusesOne 147 = .ok (.iconst 0, 1) := by decide +kernel
theorem dL_refusesOne_148 : decode cL_refusesOne 148 = .ok (.invokestatic 97, 3) := by decide +kernel
theorem dL_refusesOne_151 : decode cL_refusesOne 151 = .ok (.bipush (-12), 2) := by decide +kernel
theorem dL_refusesOne_153 : decode cL_refusesOne 153 = .ok (.if_icmp .ne 161, 3) := by decide +kernel
theorem dL_refusesOne_156 : decode cL_refusesOne 156 = .ok (.aload_n 0, 1) := by decide +kernel
theorem dL_refusesOne_157 : decode cL_refusesOne 157 = .ok (.iconst 2, 1) := by decide +kernel
theorem dL_refusesOne_158 : decode cL_refusesOne 158 = .ok (.iconst 0, 1) := by decide +kernel
theorem dL_refusesOne_159 : decode cL_refusesOne 159 = .ok (.bipush 9, 2) := by decide +kernel
theorem dL_refusesOne_161 : decode cL_refusesOne 161 = .ok (.iload_n 1, 1) := by decide +kernel
theorem dL_refusesOne_162 : decode cL_refusesOne 162 = .ok (.iconst 0, 1) := by decide +kernel
theorem dL_refusesOne_163 : decode cL_refusesOne 163 = .ok (.bipush 50, 2) := by decide +kernel
theorem dL_refusesOne_165 : decode cL_refusesOne 165 = .ok (.invokestatic 92, 3) := by decide +kernel
theorem dL_refusesOne_168 : decode cL_refusesOne 168 = .ok (.iconst 0, 1) := by decide +kernel
theorem dL_refusesOne_169 : decode cL_refusesOne 169 = .ok (.invokestatic 97, 3) := by decide +kernel
theorem dL_refusesOne_172 : decode cL_refusesOne 172 = .ok (.bipush (-12), 2) := by decide +kernel
theorem dL_refusesOne_174 : decode cL_refusesOne 174 = .ok (.if_icmp .ne 140, 3) := by decide +kernel
theorem dL_refusesOne_177 : decode cL_refusesOne 177 = .ok (.aload_n 0, 1) := by decide +kernel
theorem dL_refusesOne_178 : decode cL_refusesOne 178 = .ok (.iconst 2, 1) := by decide +kernel
theorem dL_refusesOne_179 : decode cL_refusesOne 179 = .ok (.iconst 0, 1) := by decide +kernel
theorem dL_refusesOne_180 : decode cL_refusesOne 180 = .ok (.iconst 0, 1) := by decide +kernel
theorem dL_refusesOne_181 : decode cL_refusesOne 181 = .ok (.bipush 50, 2) := by decide +kernel
theorem dL_refusesOne_183 : decode cL_refusesOne 183 = .ok (.iload_n 1, 1) := by decide +kernel
theorem dL_refusesOne_184 : decode cL_refusesOne 184 = .ok (.iconst 0, 1) := by decide +kernel
theorem dL_refusesOne_185 : decode cL_refusesOne 185 = .ok (.bipush 9, 2) := by decide +kernel
theorem dL_refusesOne_187 : decode cL_refusesOne 187 = .ok (.invokestatic 92, 3) := by decide +kernel
theorem dL_refusesOne_190 : decode cL_refusesOne 190 = .ok (.invokestatic 97, 3) := by decide +kernel
theorem dL_refusesOne_193 : decode cL_refusesOne 193 = .ok (.bipush (-12), 2) := by decide +kernel
theorem dL_refusesOne_195 : decode cL_refusesOne 195 = .ok (.if_icmp .ne 119, 3) := by decide +kernel
theorem dL_refusesOne_198 : decode cL_refusesOne 198 = .ok (.aload_n 0, 1) := by decide +kernel
theorem dL_refusesOne_199 : decode cL_refusesOne 199 = .ok (.iconst 3, 1) := by decide +kernel
theorem dL_refusesOne_200 : decode cL_refusesOne 200 = .ok (.iload_n 1, 1) := by decide +kernel
theorem dL_refusesOne_201 : decode cL_refusesOne 201 = .ok (.iconst 0, 1) := by decide +kernel
theorem dL_refusesOne_202 : decode cL_refusesOne 202 = .ok (.iconst 2, 1) := by decide +kernel
theorem dL_refusesOne_203 : decode cL_refusesOne 203 = .ok (.invokestatic 92, 3) := by decide +kernel
theorem dL_refusesOne_206 : decode cL_refusesOne 206 = .ok (.iconst 0, 1) := by decide +kernel
theorem dL_refusesOne_207 : decode cL_refusesOne 207 = .ok (.iconst 0, 1) := by decide +kernel
theorem dL_refusesOne_208 : decode cL_refusesOne 208 = .ok (.iconst 0, 1) := by decide +kernel
theorem dL_refusesOne_209 : decode cL_refusesOne 209 = .ok (.invokestatic 97, 3) := by decide +kernel
theorem dL_refusesOne_212 : decode cL_refusesOne 212 = .ok (.bipush (-12), 2) := by decide +kernel
theorem dL_refusesOne_214 : decode cL_refusesOne 214 = .ok (.if_icmp .ne 100, 3) := by decide +kernel
theorem dL_refusesOne_217 : decode cL_refusesOne 217 = .ok (.aload_n 0, 1) := by decide +kernel
theorem dL_refusesOne_218 : decode cL_refusesOne 218 = .ok (.iconst 4, 1) := by decide +kernel
theorem dL_refusesOne_219 : decode cL_refusesOne 219 = .ok (.iload_n 1, 1) := by decide +kernel
theorem dL_refusesOne_220 : decode cL_refusesOne 220 = .ok (.iconst 1, 1) := by decide +kernel
theorem dL_refusesOne_221 : decode cL_refusesOne 221 = .ok (.bipush 99, 2) := by decide +kernel
theorem dL_refusesOne_223 : decode cL_refusesOne 223 = .ok (.invokestatic 92, 3) := by decide +kernel
theorem dL_refusesOne_226 : decode cL_refusesOne 226 = .ok (.iconst 0, 1) := by decide +kernel
theorem dL_refusesOne_227 : decode cL_refusesOne 227 = .ok (.iconst 0, 1) := by decide +kernel
theorem dL_refusesOne_228 : decode cL_refusesOne 228 = .ok (.iconst 0, 1) := by decide +kernel
theorem dL_refusesOne_229 : decode cL_refusesOne 229 = .ok (.invokestatic 97, 3) := by decide +kernel
theorem dL_refusesOne_232 : decode cL_refusesOne 232 = .ok (.bipush (-12), 2) := by decide +kernel
theorem dL_refusesOne_234 : decode cL_refusesOne 234 = .ok (.if_icmp .ne 80, 3) := by decide +kernel
theorem dL_refusesOne_237 : decode cL_refusesOne 237 = .ok (.aload_n 0, 1) := by decide +kernel
theorem dL_refusesOne_238 : decode cL_refusesOne 238 = .ok (.bipush 6, 2) := by decide +kernel
theorem dL_refusesOne_240 : decode cL_refusesOne 240 = .ok (.iload_n 1, 1) := by decide +kernel
theorem dL_refusesOne_241 : decode cL_refusesOne 241 = .ok (.bipush 33, 2) := by decide +kernel
theorem dL_refusesOne_243 : decode cL_refusesOne 243 = .ok (.bipush 126, 2) := by decide +kernel
theorem dL_refusesOne_245 : decode cL_refusesOne 245 = .ok (.invokestatic 92, 3) := by decide +kernel
theorem dL_refusesOne_248 : decode cL_refusesOne 248 = .ok (.iconst 0, 1) := by decide +kernel
theorem dL_refusesOne_249 : decode cL_refusesOne 249 = .ok (.iconst 0, 1) := by decide +kernel
theorem dL_refusesOne_250 : decode cL_refusesOne 250 = .ok (.iconst 0, 1) := by decide +kernel
theorem dL_refusesOne_251 : decode cL_refusesOne 251 = .ok (.invokestatic 97, 3) := by decide +kernel
theorem dL_refusesOne_254 : decode cL_refusesOne 254 = .ok (.bipush (-12), 2) := by decide +kernel
theorem dL_refusesOne_256 : decode cL_refusesOne 256 = .ok (.if_icmp .ne 58, 3) := by decide +kernel
theorem dL_refusesOne_259 : decode cL_refusesOne 259 = .ok (.aload_n 0, 1) := by decide +kernel
theorem dL_refusesOne_260 : decode cL_refusesOne 260 = .ok (.bipush 7, 2) := by decide +kernel
theorem dL_refusesOne_262 : decode cL_refusesOne 262 = .ok (.iconst 0, 1) := by decide +kernel
theorem dL_refusesOne_263 : decode cL_refusesOne 263 = .ok (.iconst 0, 1) := by decide +kernel
theorem dL_refusesOne_264 : decode cL_refusesOne 264 = .ok (.iconst 0, 1) := by decide +kernel
theorem dL_refusesOne_265 : decode cL_refusesOne 265 = .ok (.iconst 0, 1) := by decide +kernel
theorem dL_refusesOne_266 : decode cL_refusesOne 266 = .ok (.invokestatic 97, 3) := by decide +kernel
theorem dL_refusesOne_269 : decode cL_refusesOne 269 = .ok (.bipush (-12), 2) := by decide +kernel
theorem dL_refusesOne_271 : decode cL_refusesOne 271 = .ok (.if_icmp .ne 43, 3) := by decide +kernel
theorem dL_refusesOne_274 : decode cL_refusesOne 274 = .ok (.aload_n 0, 1) := by decide +kernel
theorem dL_refusesOne_275 : decode cL_refusesOne 275 = .ok (.bipush 8, 2) := by decide +kernel
theorem dL_refusesOne_277 : decode cL_refusesOne 277 = .ok (.iload_n 1, 1) := by decide +kernel
theorem dL_refusesOne_278 : decode cL_refusesOne 278 = .ok (.iconst 0, 1) := by decide +kernel
theorem dL_refusesOne_279 : decode cL_refusesOne 279 = .ok (.iconst 1, 1) := by decide +kernel
theorem dL_refusesOne_280 : decode cL_refusesOne 280 = .ok (.invokestatic 92, 3) := by decide +kernel
theorem dL_refusesOne_283 : decode cL_refusesOne 283 = .ok (.iconst 0, 1) := by decide +kernel
theorem dL_refusesOne_284 : decode cL_refusesOne 284 = .ok (.iconst 0, 1) := by decide +kernel
theorem dL_refusesOne_285 : decode cL_refusesOne 285 = .ok (.iconst 0, 1) := by decide +kernel
theorem dL_refusesOne_286 : decode cL_refusesOne 286 = .ok (.invokestatic 97, 3) := by decide +kernel
theorem dL_refusesOne_289 : decode cL_refusesOne 289 = .ok (.bipush (-12), 2) := by decide +kernel
theorem dL_refusesOne_291 : decode cL_refusesOne 291 = .ok (.if_icmp .ne 23, 3) := by decide +kernel
theorem dL_refusesOne_294 : decode cL_refusesOne 294 = .ok (.aload_n 0, 1) := by decide +kernel
theorem dL_refusesOne_295 : decode cL_refusesOne 295 = .ok (.bipush 9, 2) := by decide +kernel
theorem dL_refusesOne_297 : decode cL_refusesOne 297 = .ok (.iload_n 1, 1) := by decide +kernel
theorem dL_refusesOne_298 : decode cL_refusesOne 298 = .ok (.iconst 0, 1) := by decide +kernel
theorem dL_refusesOne_299 : decode cL_refusesOne 299 = .ok (.iconst 1, 1) := by decide +kernel
theorem dL_refusesOne_300 : decode cL_refusesOne 300 = .ok (.invokestatic 92, 3) := by decide +kernel
theorem dL_refusesOne_303 : decode cL_refusesOne 303 = .ok (.iconst 0, 1) := by decide +kernel
theorem dL_refusesOne_304 : decode cL_refusesOne 304 = .ok (.iconst 0, 1) := by decide +kernel
theorem dL_refusesOne_305 : decode cL_refusesOne 305 = .ok (.iconst 0, 1) := by decide +kernel
theorem dL_refusesOne_306 : decode cL_refusesOne 306 = .ok (.invokestatic 97, 3) := by decide +kernel
theorem dL_refusesOne_309 : decode cL_refusesOne 309 = .ok (.bipush (-12), 2) := by decide +kernel
theorem dL_refusesOne_311 : decode cL_refusesOne 311 = .ok (.if_icmp .eq 5, 3) := by decide +kernel
theorem dL_refusesOne_314 : decode cL_refusesOne 314 = .ok (.iconst 0, 1) := by decide +kernel
theorem dL_refusesOne_315 : decode cL_refusesOne 315 = .ok (.ireturn, 1) := by decide +kernel
theorem dL_refusesOne_316 : decode cL_refusesOne 316 = .ok (.aload_n 0, 1) := by decide +kernel
theorem dL_refusesOne_317 : decode cL_refusesOne 317 = .ok (.bipush 11, 2) := by decide +kernel
theorem dL_refusesOne_319 : decode cL_refusesOne 319 = .ok (.iload_n 2, 1) := by decide +kernel
theorem dL_refusesOne_320 : decode cL_refusesOne 320 = .ok (.iconst 0, 1) := by decide +kernel
theorem dL_refusesOne_321 : decode cL_refusesOne 321 = .ok (.iconst 0, 1) := by decide +kernel
theorem dL_refusesOne_322 : decode cL_refusesOne 322 = .ok (.iconst 0, 1) := by decide +kernel
theorem dL_refusesOne_323 : decode cL_refusesOne 323 = .ok (.invokestatic 97, 3) := by decide +kernel
theorem dL_refusesOne_326 : decode cL_refusesOne 326 = .ok (.bipush (-11), 2) := by decide +kernel
theorem dL_refusesOne_328 : decode cL_refusesOne 328 = .ok (.if_icmp .ne 274, 3) := by decide +kernel
theorem dL_refusesOne_331 : decode cL_refusesOne 331 = .ok (.aload_n 0, 1) := by decide +kernel
theorem dL_refusesOne_332 : decode cL_refusesOne 332 = .ok (.bipush 11, 2) := by decide +kernel
theorem dL_refusesOne_334 : decode cL_refusesOne 334 = .ok (.iconst 0, 1) := by decide +kernel
theorem dL_refusesOne_335 : decode cL_refusesOne 335 = .ok (.iload_n 3, 1) := by decide +kernel
theorem dL_refusesOne_336 : decode cL_refusesOne 336 = .ok (.iconst 0, 1) := by decide +kernel
theorem dL_refusesOne_337 : decode cL_refusesOne 337 = .ok (.iconst 0, 1) := by decide +kernel
theorem dL_refusesOne_338 : decode cL_refusesOne 338 = .ok (.invokestatic 97, 3) := by decide +kernel
theorem dL_refusesOne_341 : decode cL_refusesOne 341 = .ok (.bipush (-11), 2) := by decide +kernel
theorem dL_refusesOne_343 : decode cL_refusesOne 343 = .ok (.if_icmp .ne 259, 3) := by decide +kernel
theorem dL_refusesOne_346 : decode cL_refusesOne 346 = .ok (.aload_n 0, 1) := by decide +kernel
theorem dL_refusesOne_347 : decode cL_refusesOne 347 = .ok (.bipush 12, 2) := by decide +kernel
theorem dL_refusesOne_349 : decode cL_refusesOne 349 = .ok (.iload_n 2, 1) := by decide +kernel
theorem dL_refusesOne_350 : decode cL_refusesOne 350 = .ok (.bipush 9, 2) := by decide +kernel
theorem dL_refusesOne_352 : decode cL_refusesOne 352 = .ok (.iconst 0, 1) := by decide +kernel
theorem dL_refusesOne_353 : decode cL_refusesOne 353 = .ok (.iconst 0, 1) := by decide +kernel
theorem dL_refusesOne_354 : decode cL_refusesOne 354 = .ok (.invokestatic 97, 3) := by decide +kernel
theorem dL_refusesOne_357 : decode cL_refusesOne 357 = .ok (.bipush (-11), 2) := by decide +kernel
theorem dL_refusesOne_359 : decode cL_refusesOne 359 = .ok (.if_icmp .ne 243, 3) := by decide +kernel
theorem dL_refusesOne_362 : decode cL_refusesOne 362 = .ok (.aload_n 0, 1) := by decide +kernel
theorem dL_refusesOne_363 : decode cL_refusesOne 363 = .ok (.bipush 12, 2) := by decide +kernel
theorem dL_refusesOne_365 : decode cL_refusesOne 365 = .ok (.iconst 0, 1) := by decide +kernel
theorem dL_refusesOne_366 : decode cL_refusesOne 366 = .ok (.iload_n 1, 1) := by decide +kernel
theorem dL_refusesOne_367 : decode cL_refusesOne 367 = .ok (.iconst 0, 1) := by decide +kernel
theorem dL_refusesOne_368 : decode cL_refusesOne 368 = .ok (.iconst 2, 1) := by decide +kernel
theorem dL_refusesOne_369 : decode cL_refusesOne 369 = .ok (.invokestatic 92, 3) := by decide +kernel
theorem dL_refusesOne_372 : decode cL_refusesOne 372 = .ok (.iconst 0, 1) := by decide +kernel
theorem dL_refusesOne_373 : decode cL_refusesOne 373 = .ok (.iconst 0, 1) := by decide +kernel
theorem dL_refusesOne_374 : decode cL_refusesOne 374 = .ok (.invokestatic 97, 3) := by decide +kernel
theorem dL_refusesOne_377 : decode cL_refusesOne 377 = .ok (.bipush (-12), 2) := by decide +kernel
theorem dL_refusesOne_379 : decode cL_refusesOne 379 = .ok (.if_icmp .ne 223, 3) := by decide +kernel
theorem dL_refusesOne_382 : decode cL_refusesOne 382 = .ok (.aload_n 0, 1) := by decide +kernel
theorem dL_refusesOne_383 : decode cL_refusesOne 383 = .ok (.bipush 13, 2) := by decide +kernel
theorem dL_refusesOne_385 : decode cL_refusesOne 385 = .ok (.iload_n 1, 1) := by decide +kernel
theorem dL_refusesOne_386 : decode cL_refusesOne 386 = .ok (.iconst 0, 1) := by decide +kernel
theorem dL_refusesOne_387 : decode cL_refusesOne 387 = .ok (.iconst 2, 1) := by decide +kernel
theorem dL_refusesOne_388 : decode cL_refusesOne 388 = .ok (.invokestatic 92, 3) := by decide +kernel
theorem dL_refusesOne_391 : decode cL_refusesOne 391 = .ok (.iconst 0, 1) := by decide +kernel
theorem dL_refusesOne_392 : decode cL_refusesOne 392 = .ok (.iconst 0, 1) := by decide +kernel
theorem dL_refusesOne_393 : decode cL_refusesOne 393 = .ok (.iconst 0, 1) := by decide +kernel
theorem dL_refusesOne_394 : decode cL_refusesOne 394 = .ok (.invokestatic 97, 3) := by decide +kernel
theorem dL_refusesOne_397 : decode cL_refusesOne 397 = .ok (.bipush (-12), 2) := by decide +kernel
theorem dL_refusesOne_399 : decode cL_refusesOne 399 = .ok (.if_icmp .ne 203, 3) := by decide +kernel
theorem dL_refusesOne_402 : decode cL_refusesOne 402 = .ok (.aload_n 0, 1) := by decide +kernel
theorem dL_refusesOne_403 : decode cL_refusesOne 403 = .ok (.bipush 14, 2) := by decide +kernel
theorem dL_refusesOne_405 : decode cL_refusesOne 405 = .ok (.iload_n 1, 1) := by decide +kernel
theorem dL_refusesOne_406 : decode cL_refusesOne 406 = .ok (.iconst 0, 1) := by decide +kernel
theorem dL_refusesOne_407 : decode cL_refusesOne 407 = .ok (.iconst 3, 1) := by decide +kernel
theorem dL_refusesOne_408 : decode cL_refusesOne 408 = .ok (.invokestatic 92, 3) := by decide +kernel
theorem dL_refusesOne_411 : decode cL_refusesOne 411 = .ok (.iconst 0, 1) := by decide +kernel
theorem dL_refusesOne_412 : decode cL_refusesOne 412 = .ok (.iconst 0, 1) := by decide +kernel
theorem dL_refusesOne_413 : decode cL_refusesOne 413 = .ok (.iconst 0, 1) := by decide +kernel
theorem dL_refusesOne_414 : decode cL_refusesOne 414 = .ok (.invokestatic 97, 3) := by decide +kernel
theorem dL_refusesOne_417 : decode cL_refusesOne 417 = .ok (.bipush (-12), 2) := by decide +kernel
theorem dL_refusesOne_419 : decode cL_refusesOne 419 = .ok (.if_icmp .ne 183, 3) := by decide +kernel
theorem dL_refusesOne_422 : decode cL_refusesOne 422 = .ok (.aload_n 0, 1) := by decide +kernel
theorem dL_refusesOne_423 : decode cL_refusesOne 423 = .ok (.bipush 15, 2) := by decide +kernel
theorem dL_refusesOne_425 : decode cL_refusesOne 425 = .ok (.iload_n 1, 1) := by decide +kernel
theorem dL_refusesOne_426 : decode cL_refusesOne 426 = .ok (.iconst 0, 1) := by decide +kernel
theorem dL_refusesOne_427 : decode cL_refusesOne 427 = .ok (.bipush 8, 2) := by decide +kernel
theorem dL_refusesOne_429 : decode cL_refusesOne 429 = .ok (.invokestatic 92, 3) := by decide +kernel
theorem dL_refusesOne_432 : decode cL_refusesOne 432 = .ok (.iconst 0, 1) := by decide +kernel
theorem dL_refusesOne_433 : decode cL_refusesOne 433 = .ok (.iconst 0, 1) := by decide +kernel
theorem dL_refusesOne_434 : decode cL_refusesOne 434 = .ok (.iconst 0, 1) := by decide +kernel
theorem dL_refusesOne_435 : decode cL_refusesOne 435 = .ok (.invokestatic 97, 3) := by decide +kernel
theorem dL_refusesOne_438 : decode cL_refusesOne 438 = .ok (.bipush (-12), 2) := by decide +kernel
theorem dL_refusesOne_440 : decode cL_refusesOne 440 = .ok (.if_icmp .ne 162, 3) := by decide +kernel
theorem dL_refusesOne_443 : decode cL_refusesOne 443 = .ok (.aload_n 0, 1) := by decide +kernel
theorem dL_refusesOne_444 : decode cL_refusesOne 444 = .ok (.bipush 16, 2) := by decide +kernel
theorem dL_refusesOne_446 : decode cL_refusesOne 446 = .ok (.iload_n 1, 1) := by decide +kernel
theorem dL_refusesOne_447 : decode cL_refusesOne 447 = .ok (.iconst 0, 1) := by decide +kernel
theorem dL_refusesOne_448 : decode cL_refusesOne 448 = .ok (.aload_n 0, 1) := by decide +kernel
theorem dL_refusesOne_449 : decode cL_refusesOne 449 = .ok (.iconst 2, 1) := by decide +kernel
theorem dL_refusesOne_450 : decode cL_refusesOne 450 = .ok (.invokevirtual 61, 3) := by decide +kernel
theorem dL_refusesOne_453 : decode cL_refusesOne 453 = .ok (.iconst 1, 1) := by decide +kernel
theorem dL_refusesOne_454 : decode cL_refusesOne 454 = .ok (.isub, 1) := by decide +kernel
theorem dL_refusesOne_455 : decode cL_refusesOne 455 = .ok (.invokestatic 92, 3) := by decide +kernel
theorem dL_refusesOne_458 : decode cL_refusesOne 458 = .ok (.iconst 0, 1) := by decide +kernel
theorem dL_refusesOne_459 : decode cL_refusesOne 459 = .ok (.iconst 0, 1) := by decide +kernel
theorem dL_refusesOne_460 : decode cL_refusesOne 460 = .ok (.iconst 0, 1) := by decide +kernel
theorem dL_refusesOne_461 : decode cL_refusesOne 461 = .ok (.invokestatic 97, 3) := by decide +kernel
theorem dL_refusesOne_464 : decode cL_refusesOne 464 = .ok (.bipush (-11), 2) := by decide +kernel
theorem dL_refusesOne_466 : decode cL_refusesOne 466 = .ok (.if_icmp .ne 136, 3) := by decide +kernel
theorem dL_refusesOne_469 : decode cL_refusesOne 469 = .ok (.aload_n 0, 1) := by decide +kernel
theorem dL_refusesOne_470 : decode cL_refusesOne 470 = .ok (.bipush 17, 2) := by decide +kernel
theorem dL_refusesOne_472 : decode cL_refusesOne 472 = .ok (.iload_n 1, 1) := by decide +kernel
theorem dL_refusesOne_473 : decode cL_refusesOne 473 = .ok (.iconst 1, 1) := by decide +kernel
theorem dL_refusesOne_474 : decode cL_refusesOne 474 = .ok (.aload_n 0, 1) := by decide +kernel
theorem dL_refusesOne_475 : decode cL_refusesOne 475 = .ok (.iconst 2, 1) := by decide +kernel
theorem dL_refusesOne_476 : decode cL_refusesOne 476 = .ok (.invokevirtual 61, 3) := by decide +kernel
theorem dL_refusesOne_479 : decode cL_refusesOne 479 = .ok (.invokestatic 92, 3) := by decide +kernel
theorem dL_refusesOne_482 : decode cL_refusesOne 482 = .ok (.iconst 0, 1) := by decide +kernel
theorem dL_refusesOne_483 : decode cL_refusesOne 483 = .ok (.iconst 0, 1) := by decide +kernel
theorem dL_refusesOne_484 : decode cL_refusesOne 484 = .ok (.iconst 0, 1) := by decide +kernel
theorem dL_refusesOne_485 : decode cL_refusesOne 485 = .ok (.invokestatic 97, 3) := by decide +kernel
theorem dL_refusesOne_488 : decode cL_refusesOne 488 = .ok (.bipush (-12), 2) := by decide +kernel
theorem dL_refusesOne_490 : decode cL_refusesOne 490 = .ok (.if_icmp .ne 112, 3) := by decide +kernel
theorem dL_refusesOne_493 : decode cL_refusesOne 493 = .ok (.aload_n 0, 1) := by decide +kernel
theorem dL_refusesOne_494 : decode cL_refusesOne 494 = .ok (.bipush 17, 2) := by decide +kernel
theorem dL_refusesOne_496 : decode cL_refusesOne 496 = .ok (.iconst 1, 1) := by decide +kernel
theorem dL_refusesOne_497 : decode cL_refusesOne 497 = .ok (.iload_n 1, 1) := by decide +kernel
theorem dL_refusesOne_498 : decode cL_refusesOne 498 = .ok (.iconst 0, 1) := by decide +kernel
theorem dL_refusesOne_499 : decode cL_refusesOne 499 = .ok (.iconst 1, 1) := by decide +kernel
theorem dL_refusesOne_500 : decode cL_refusesOne 500 = .ok (.invokestatic 92, 3) := by decide +kernel
theorem dL_refusesOne_503 : decode cL_refusesOne 503 = .ok (.iconst 0, 1) := by decide +kernel
theorem dL_refusesOne_504 : decode cL_refusesOne 504 = .ok (.iconst 0, 1) := by decide +kernel
theorem dL_refusesOne_505 : decode cL_refusesOne 505 = .ok (.invokestatic 97, 3) := by decide +kernel
theorem dL_refusesOne_508 : decode cL_refusesOne 508 = .ok (.bipush (-12), 2) := by decide +kernel
theorem dL_refusesOne_510 : decode cL_refusesOne 510 = .ok (.if_icmp .ne 92, 3) := by decide +kernel
theorem dL_refusesOne_513 : decode cL_refusesOne 513 = .ok (.aload_n 0, 1) := by decide +kernel
theorem dL_refusesOne_514 : decode cL_refusesOne 514 = .ok (.bipush 18, 2) := by decide +kernel
theorem dL_refusesOne_516 : decode cL_refusesOne 516 = .ok (.iload_n 1, 1) := by decide +kernel
theorem dL_refusesOne_517 : decode cL_refusesOne 517 = .ok (.iconst 1, 1) := by decide +kernel
theorem dL_refusesOne_518 : decode cL_refusesOne 518 = .ok (.aload_n 0, 1) := by decide +kernel
theorem dL_refusesOne_519 : decode cL_refusesOne 519 = .ok (.iconst 2, 1) := by decide +kernel
theorem dL_refusesOne_520 : decode cL_refusesOne 520 = .ok (.invokevirtual 61, 3) := by decide +kernel
theorem dL_refusesOne_523 : decode cL_refusesOne 523 = .ok (.invokestatic 92, 3) := by decide +kernel
theorem dL_refusesOne_526 : decode cL_refusesOne 526 = .ok (.iconst 0, 1) := by decide +kernel
theorem dL_refusesOne_527 : decode cL_refusesOne 527 = .ok (.iconst 0, 1) := by decide +kernel
theorem dL_refusesOne_528 : decode cL_refusesOne 528 = .ok (.iconst 0, 1) := by decide +kernel
theorem dL_refusesOne_529 : decode cL_refusesOne 529 = .ok (.invokestatic 97, 3) := by decide +kernel
theorem dL_refusesOne_532 : decode cL_refusesOne 532 = .ok (.bipush (-12), 2) := by decide +kernel
theorem dL_refusesOne_534 : decode cL_refusesOne 534 = .ok (.if_icmp .ne 68, 3) := by decide +kernel
theorem dL_refusesOne_537 : decode cL_refusesOne 537 = .ok (.aload_n 0, 1) := by decide +kernel
theorem dL_refusesOne_538 : decode cL_refusesOne 538 = .ok (.bipush 18, 2) := by decide +kernel
theorem dL_refusesOne_540 : decode cL_refusesOne 540 = .ok (.iconst 1, 1) := by decide +kernel
theorem dL_refusesOne_541 : decode cL_refusesOne 541 = .ok (.iload_n 1, 1) := by decide +kernel
theorem dL_refusesOne_542 : decode cL_refusesOne 542 = .ok (.iconst 2, 1) := by decide +kernel
theorem dL_refusesOne_543 : decode cL_refusesOne 543 = .ok (.if_icmp .ne 8, 3) := by decide +kernel
theorem dL_refusesOne_546 : decode cL_refusesOne 546 = .ok (.ldc 91, 2) := by decide +kernel
theorem dL_refusesOne_548 : decode cL_refusesOne 548 = .ok (.goto 4, 3) := by decide +kernel
theorem dL_refusesOne_551 : decode cL_refusesOne 551 = .ok (.iconst (-1), 1) := by decide +kernel
theorem dL_refusesOne_552 : decode cL_refusesOne 552 = .ok (.iconst 0, 1) := by decide +kernel
theorem dL_refusesOne_553 : decode cL_refusesOne 553 = .ok (.iconst 0, 1) := by decide +kernel
theorem dL_refusesOne_554 : decode cL_refusesOne 554 = .ok (.invokestatic 97, 3) := by decide +kernel
theorem dL_refusesOne_557 : decode cL_refusesOne 557 = .ok (.bipush (-12), 2) := by decide +kernel
theorem dL_refusesOne_559 : decode cL_refusesOne 559 = .ok (.if_icmp .ne 43, 3) := by decide +kernel
theorem dL_refusesOne_562 : decode cL_refusesOne 562 = .ok (.aload_n 0, 1) := by decide +kernel
theorem dL_refusesOne_563 : decode cL_refusesOne 563 = .ok (.bipush 18, 2) := by decide +kernel
theorem dL_refusesOne_565 : decode cL_refusesOne 565 = .ok (.iconst 1, 1) := by decide +kernel
theorem dL_refusesOne_566 : decode cL_refusesOne 566 = .ok (.ldc 7, 2) := by decide +kernel
theorem dL_refusesOne_568 : decode cL_refusesOne 568 = .ok (.iconst 0, 1) := by decide +kernel
theorem dL_refusesOne_569 : decode cL_refusesOne 569 = .ok (.iconst 0, 1) := by decide +kernel
theorem dL_refusesOne_570 : decode cL_refusesOne 570 = .ok (.invokestatic 97, 3) := by decide +kernel
theorem dL_refusesOne_573 : decode cL_refusesOne 573 = .ok (.iconst (-1), 1) := by decide +kernel
theorem dL_refusesOne_574 : decode cL_refusesOne 574 = .ok (.if_icmp .ne 28, 3) := by decide +kernel
theorem dL_refusesOne_577 : decode cL_refusesOne 577 = .ok (.aload_n 0, 1) := by decide +kernel
theorem dL_refusesOne_578 : decode cL_refusesOne 578 = .ok (.bipush 19, 2) := by decide +kernel
theorem dL_refusesOne_580 : decode cL_refusesOne 580 = .ok (.iload_n 1, 1) := by decide +kernel
theorem dL_refusesOne_581 : decode cL_refusesOne 581 = .ok (.iconst 1, 1) := by decide +kernel
theorem dL_refusesOne_582 : decode cL_refusesOne 582 = .ok (.ldc 101, 2) := by decide +kernel
theorem dL_refusesOne_584 : decode cL_refusesOne 584 = .ok (.invokestatic 92, 3) := by decide +kernel
theorem dL_refusesOne_587 : decode cL_refusesOne 587 = .ok (.iconst 0, 1) := by decide +kernel
theorem dL_refusesOne_588 : decode cL_refusesOne 588 = .ok (.iconst 0, 1) := by decide +kernel
theorem dL_refusesOne_589 : decode cL_refusesOne 589 = .ok (.iconst 0, 1) := by decide +kernel
theorem dL_refusesOne_590 : decode cL_refusesOne 590 = .ok (.invokestatic 97, 3) := by decide +kernel
theorem dL_refusesOne_593 : decode cL_refusesOne 593 = .ok (.bipush (-12), 2) := by decide +kernel
theorem dL_refusesOne_595 : decode cL_refusesOne 595 = .ok (.if_icmp .ne 7, 3) := by decide +kernel
theorem dL_refusesOne_598 : decode cL_refusesOne 598 = .ok (.iconst 1, 1) := by decide +kernel
theorem dL_refusesOne_599 : decode cL_refusesOne 599 = .ok (.goto 4, 3) := by decide +kernel
theorem dL_refusesOne_602 : decode cL_refusesOne 602 = .ok (.iconst 0, 1) := by decide +kernel
theorem dL_refusesOne_603 : decode cL_refusesOne 603 = .ok (.ireturn, 1) := by decide +kernel
theorem dL_refused_0 : decode cL_refused 0 = .ok (.aload_n 0, 1) := by decide +kernel
theorem dL_refused_1 : decode cL_refused 1 = .ok (.invokestatic 102, 3) := by decide +kernel
theorem dL_refused_4 : decode cL_refused 4 = .ok (.lstore_n 1, 1) := by decide +kernel
theorem dL_refused_5 : decode cL_refused 5 = .ok (.aload_n 0, 1) := by decide +kernel
theorem dL_refused_6 : decode cL_refused 6 = .ok (.bipush 8, 2) := by decide +kernel
theorem dL_refused_8 : decode cL_refused 8 = .ok (.invokevirtual 61, 3) := by decide +kernel
theorem dL_refused_11 : decode cL_refused 11 = .ok (.istore_n 3, 1) := by decide +kernel
theorem dL_refused_12 : decode cL_refused 12 = .ok (.iconst 0, 1) := by decide +kernel
theorem dL_refused_13 : decode cL_refused 13 = .ok (.istore 4, 2) := by decide +kernel
theorem dL_refused_15 : decode cL_refused 15 = .ok (.iload 4, 2) := by decide +kernel
theorem dL_refused_17 : decode cL_refused 17 = .ok (.iconst 4, 1) := by decide +kernel
theorem dL_refused_18 : decode cL_refused 18 = .ok (.if_icmp .ge 20, 3) := by decide +kernel
theorem dL_refused_21 : decode cL_refused 21 = .ok (.aload_n 0, 1) := by decide +kernel
theorem dL_refused_22 : decode cL_refused 22 = .ok (.iload 4, 2) := by decide +kernel
theorem dL_refused_24 : decode cL_refused 24 = .ok (.invokestatic 106, 3) := by decide +kernel
theorem dL_refused_27 : decode cL_refused 27 = .ok (.ifCond .ne 5, 3) := by decide +kernel
theorem dL_refused_30 : decode cL_refused 30 = .ok (.iconst 0, 1) := by decide +kernel
theorem dL_refused_31 : decode cL_refused 31 = .ok (.ireturn, 1) := by decide +kernel
theorem dL_refused_32 : decode cL_refused 32 = .ok (.iinc 4 1, 3) := by decide +kernel
theorem dL_refused_35 : decode cL_refused 35 = .ok (.goto (-20), 3) := by decide +kernel
theorem dL_refused_38 : decode cL_refused 38 = .ok (.aload_n 0, 1) := by decide +kernel
theorem dL_refused_39 : decode cL_refused 39 = .ok (.invokestatic 102, 3) := by decide +kernel
theorem dL_refused_42 : decode cL_refused 42 = .ok (.lload_n 1, 1) := by decide +kernel
theorem dL_refused_43 : decode cL_refused 43 = .ok (.lcmp, 1) := by decide +kernel
theorem dL_refused_44 : decode cL_refused 44 = .ok (.ifCond .ne 17, 3) := by decide +kernel
theorem dL_refused_47 : decode cL_refused 47 = .ok (.aload_n 0, 1) := by decide +kernel
theorem dL_refused_48 : decode cL_refused 48 = .ok (.bipush 8, 2) := by decide +kernel
theorem dL_refused_50 : decode cL_refused 50 = .ok (.invokevirtual 61, 3) := by decide +kernel
theorem dL_refused_53 : decode cL_refused 53 = .ok (.iload_n 3, 1) := by decide +kernel
theorem dL_refused_54 : decode cL_refused 54 = .ok (.if_icmp .ne 7, 3) := by decide +kernel
theorem dL_refused_57 : decode cL_refused 57 = .ok (.iconst 1, 1) := by decide +kernel
theorem dL_refused_58 : decode cL_refused 58 = .ok (.goto 4, 3) := by decide +kernel
theorem dL_refused_61 : decode cL_refused 61 = .ok (.iconst 0, 1) := by decide +kernel
theorem dL_refused_62 : decode cL_refused 62 = .ok (.ireturn, 1) := by decide +kernel
theorem dL_small_0 : decode cL_small 0 = .ok (.new 10, 3) := by decide +kernel
theorem dL_small_3 : decode cL_small 3 = .ok (.dup, 1) := by decide +kernel
theorem dL_small_4 : decode cL_small 4 = .ok (.invokespecial 110, 3) := by decide +kernel
theorem dL_small_7 : decode cL_small 7 = .ok (.astore_n 0, 1) := by decide +kernel
theorem dL_small_8 : decode cL_small 8 = .ok (.aload_n 0, 1) := by decide +kernel
theorem dL_small_9 : decode cL_small 9 = .ok (.bipush 10, 2) := by decide +kernel
theorem dL_small_11 : decode cL_small 11 = .ok (.iconst 0, 1) := by decide +kernel
theorem dL_small_12 : decode cL_small 12 = .ok (.iconst 0, 1) := by decide +kernel
theorem dL_small_13 : decode cL_small 13 = .ok (.iconst 0, 1) := by decide +kernel
theorem dL_small_14 : decode cL_small 14 = .ok (.iconst 0, 1) := by decide +kernel
theorem dL_small_15 : decode cL_small 15 = .ok (.invokestatic 97, 3) := by decide +kernel
theorem dL_small_18 : decode cL_small 18 = .ok (.bipush (-13), 2) := by decide +kernel
theorem dL_small_20 : decode cL_small 20 = .ok (.if_icmp .ne 168, 3) := by decide +kernel
theorem dL_small_23 : decode cL_small 23 = .ok (.aload_n 0, 1) := by decide +kernel
theorem dL_small_24 : decode cL_small 24 = .ok (.bipush 9, 2) := by decide +kernel
theorem dL_small_26 : decode cL_small 26 = .ok (.iconst 1, 1) := by decide +kernel
theorem dL_small_27 : decode cL_small 27 = .ok (.iconst 0, 1) := by decide +kernel
theorem dL_small_28 : decode cL_small 28 = .ok (.iconst 0, 1) := by decide +kernel
theorem dL_small_29 : decode cL_small 29 = .ok (.iconst 0, 1) := by decide +kernel
theorem dL_small_30 : decode cL_small 30 = .ok (.invokestatic 97, 3) := by decide +kernel
theorem dL_small_33 : decode cL_small 33 = .ok (.bipush (-13), 2) := by decide +kernel
theorem dL_small_35 : decode cL_small 35 = .ok (.if_icmp .ne 153, 3) := by decide +kernel
theorem dL_small_38 : decode cL_small 38 = .ok (.aload_n 0, 1) := by decide +kernel
theorem dL_small_39 : decode cL_small 39 = .ok (.iconst 5, 1) := by decide +kernel
theorem dL_small_40 : decode cL_small 40 = .ok (.iconst 0, 1) := by decide +kernel
theorem dL_small_41 : decode cL_small 41 = .ok (.iconst 0, 1) := by decide +kernel
theorem dL_small_42 : decode cL_small 42 = .ok (.iconst 0, 1) := by decide +kernel
theorem dL_small_43 : decode cL_small 43 = .ok (.iconst 0, 1) := by decide +kernel
theorem dL_small_44 : decode cL_small 44 = .ok (.invokestatic 97, 3) := by decide +kernel
theorem dL_small_47 : decode cL_small 47 = .ok (.bipush (-13), 2) := by decide +kernel
theorem dL_small_49 : decode cL_small 49 = .ok (.if_icmp .ne 139, 3) := by decide +kernel
theorem dL_small_52 : decode cL_small 52 = .ok (.aload_n 0, 1) := by decide +kernel
theorem dL_small_53 : decode cL_small 53 = .ok (.iconst 0, 1) := by decide +kernel
theorem dL_small_54 : decode cL_small 54 = .ok (.invokevirtual 55, 3) := by decide +kernel
theorem dL_small_57 : decode cL_small 57 = .ok (.bipush 16, 2) := by decide +kernel
theorem dL_small_59 : decode cL_small 59 = .ok (.if_icmp .ne 129, 3) := by decide +kernel
theorem dL_small_62 : decode cL_small 62 = .ok (.aload_n 0, 1) := by decide +kernel
theorem dL_small_63 : decode cL_small 63 = .ok (.iconst 1, 1) := by decide +kernel
theorem dL_small_64 : decode cL_small 64 = .ok (.invokevirtual 55, 3) := by decide +kernel
theorem dL_small_67 : decode cL_small 67 = .ok (.bipush 13, 2) := by decide +kernel
theorem dL_small_69 : decode cL_small 69 = .ok (.if_icmp .ne 119, 3) := by decide +kernel
theorem dL_small_72 : decode cL_small 72 = .ok (.aload_n 0, 1) := by decide +kernel
theorem dL_small_73 : decode cL_small 73 = .ok (.iconst 2, 1) := by decide +kernel
theorem dL_small_74 : decode cL_small 74 = .ok (.invokevirtual 55, 3) := by decide +kernel
theorem dL_small_77 : decode cL_small 77 = .ok (.bipush 18, 2) := by decide +kernel
theorem dL_small_79 : decode cL_small 79 = .ok (.if_icmp .ne 109, 3) := by decide +kernel
theorem dL_small_82 : decode cL_small 82 = .ok (.aload_n 0, 1) := by decide +kernel
theorem dL_small_83 : decode cL_small 83 = .ok (.invokevirtual 88, 3) := by decide +kernel
theorem dL_small_86 : decode cL_small 86 = .ok (.bipush 24, 2) := by decide +kernel
theorem dL_small_88 : decode cL_small 88 = .ok (.if_icmp .ne 100, 3) := by decide +kernel
theorem dL_small_91 : decode cL_small 91 = .ok (.aload_n 0, 1) := by decide +kernel
theorem dL_small_92 : decode cL_small 92 = .ok (.invokevirtual 111, 3) := by decide +kernel
theorem dL_small_95 : decode cL_small 95 = .ok (.ldc2_w 115, 3) := by decide +kernel
theorem dL_small_98 : decode cL_small 98 = .ok (.dcmp .l, 1) := by decide +kernel
theorem dL_small_99 : decode cL_small 99 = .ok (.ifCond .ne 89, 3) := by decide +kernel
theorem dL_small_102 : decode cL_small 102 = .ok (.aload_n 0, 1) := by decide +kernel
theorem dL_small_103 : decode cL_small 103 = .ok (.iconst 3, 1) := by decide +kernel
theorem dL_small_104 : decode cL_small 104 = .ok (.iconst 2, 1) := by decide +kernel
theorem dL_small_105 : decode cL_small 105 = .ok (.invokevirtual 52, 3) := by decide +kernel
theorem dL_small_108 : decode cL_small 108 = .ok (.ifCond .ne 80, 3) := by decide +kernel
theorem dL_small_111 : decode cL_small 111 = .ok (.aload_n 0, 1) := by decide +kernel
theorem dL_small_112 : decode cL_small 112 = .ok (.iconst 0, 1) := by decide +kernel
theorem dL_small_113 : decode cL_small 113 = .ok (.invokevirtual 58, 3) := by decide +kernel
theorem dL_small_116 : decode cL_small 116 = .ok (.iconst (-1), 1) := by decide +kernel
theorem dL_small_117 : decode cL_small 117 = .ok (.if_icmp .ne 71, 3) := by decide +kernel
theorem dL_small_120 : decode cL_small 120 = .ok (.aload_n 0, 1) := by decide +kernel
theorem dL_small_121 : decode cL_small 121 = .ok (.iconst 1, 1) := by decide +kernel
theorem dL_small_122 : decode cL_small 122 = .ok (.iconst 1, 1) := by decide +kernel
theorem dL_small_123 : decode cL_small 123 = .ok (.invokevirtual 67, 3) := by decide +kernel
theorem dL_small_126 : decode cL_small 126 = .ok (.iconst 1, 1) := by decide +kernel
theorem dL_small_127 : decode cL_small 127 = .ok (.if_icmp .ne 61, 3) := by decide +kernel
theorem dL_small_130 : decode cL_small 130 = .ok (.aload_n 0, 1) := by decide +kernel
theorem dL_small_131 : decode cL_small 131 = .ok (.invokestatic 117, 3) := by decide +kernel
theorem dL_small_134 : decode cL_small 134 = .ok (.ifCond .eq 54, 3) := by decide +kernel
theorem dL_small_137 : decode cL_small 137 = .ok (.aload_n 0, 1) := by decide +kernel
theorem dL_small_138 : decode cL_small 138 = .ok (.iconst 2, 1) := by decide +kernel
theorem dL_small_139 : decode cL_small 139 = .ok (.iconst 2, 1) := by decide +kernel
theorem dL_small_140 : decode cL_small 140 = .ok (.invokevirtual 9, 3) := by decide +kernel
theorem dL_small_143 : decode cL_small 143 = .ok (.bipush 48, 2) := by decide +kernel
theorem dL_small_145 : decode cL_small 145 = .ok (.if_icmp .ne 43, 3) := by decide +kernel
theorem dL_small_148 : decode cL_small 148 = .ok (.aload_n 0, 1) := by decide +kernel
theorem dL_small_149 : decode cL_small 149 = .ok (.iconst 0, 1) := by decide +kernel
theorem dL_small_150 : decode cL_small 150 = .ok (.iconst 0, 1) := by decide +kernel
theorem dL_small_151 : decode cL_small 151 = .ok (.iconst 5, 1) := by decide +kernel
theorem dL_small_152 : decode cL_small 152 = .ok (.invokevirtual 15, 3) := by decide +kernel
theorem dL_small_155 : decode cL_small 155 = .ok (.ifCond .ne 33, 3) := by decide +kernel
theorem dL_small_158 : decode cL_small 158 = .ok (.aload_n 0, 1) := by decide +kernel
theorem dL_small_159 : decode cL_small 159 = .ok (.iconst 0, 1) := by decide +kernel
theorem dL_small_160 : decode cL_small 160 = .ok (.iconst 1, 1) := by decide +kernel
theorem dL_small_161 : decode cL_small 161 = .ok (.iconst 3, 1) := by decide +kernel
theorem dL_small_162 : decode cL_small 162 = .ok (.invokevirtual 15, 3) := by decide +kernel
theorem dL_small_165 : decode cL_small 165 = .ok (.ifCond .ne 23, 3) := by decide +kernel
theorem dL_small_168 : decode cL_small 168 = .ok (.aload_n 0, 1) := by decide +kernel
theorem dL_small_169 : decode cL_small 169 = .ok (.iconst 1, 1) := by decide +kernel
theorem dL_small_170 : decode cL_small 170 = .ok (.iconst 0, 1) := by decide +kernel
theorem dL_small_171 : decode cL_small 171 = .ok (.iconst 1, 1) := by decide +kernel
theorem dL_small_172 : decode cL_small 172 = .ok (.invokevirtual 15, 3) := by decide +kernel
theorem dL_small_175 : decode cL_small 175 = .ok (.ifCond .ne 13, 3) := by decide +kernel
theorem dL_small_178 : decode cL_small 178 = .ok (.aload_n 0, 1) := by decide +kernel
theorem dL_small_179 : decode cL_small 179 = .ok (.iconst 1, 1) := by decide +kernel
theorem dL_small_180 : decode cL_small 180 = .ok (.iconst 1, 1) := by decide +kernel
theorem dL_small_181 : decode cL_small 181 = .ok (.iconst 2, 1) := by decide +kernel
theorem dL_small_182 : decode cL_small 182 = .ok (.invokevirtual 15, 3) := by decide +kernel
theorem dL_small_185 : decode cL_small 185 = .ok (.ifCond .eq 5, 3) := by decide +kernel
theorem dL_small_188 : decode cL_small 188 = .ok (.iconst 0, 1) := by decide +kernel
theorem dL_small_189 : decode cL_small 189 = .ok (.ireturn, 1) := by decide +kernel
theorem dL_small_190 : decode cL_small 190 = .ok (.aload_n 0, 1) := by decide +kernel
theorem dL_small_191 : decode cL_small 191 = .ok (.iconst 0, 1) := by decide +kernel
theorem dL_small_192 : decode cL_small 192 = .ok (.invokevirtual 58, 3) := by decide +kernel
theorem dL_small_195 : decode cL_small 195 = .ok (.ifCond .ne 204, 3) := by decide +kernel
theorem dL_small_198 : decode cL_small 198 = .ok (.aload_n 0, 1) := by decide +kernel
theorem dL_small_199 : decode cL_small 199 = .ok (.iconst 1, 1) := by decide +kernel
theorem dL_small_200 : decode cL_small 200 = .ok (.invokevirtual 58, 3) := by decide +kernel
theorem dL_small_203 : decode cL_small 203 = .ok (.ifCond .ne 196, 3) := by decide +kernel
theorem dL_small_206 : decode cL_small 206 = .ok (.aload_n 0, 1) := by decide +kernel
theorem dL_small_207 : decode cL_small 207 = .ok (.iconst 2, 1) := by decide +kernel
theorem dL_small_208 : decode cL_small 208 = .ok (.invokevirtual 58, 3) := by decide +kernel
theorem dL_small_211 : decode cL_small 211 = .ok (.iconst 1, 1) := by decide +kernel
theorem dL_small_212 : decode cL_small 212 = .ok (.if_icmp .ne 187, 3) := by decide +kernel
theorem dL_small_215 : decode cL_small 215 = .ok (.aload_n 0, 1) := by decide +kernel
theorem dL_small_216 : decode cL_small 216 = .ok (.iconst 3, 1) := by decide +kernel
theorem dL_small_217 : decode cL_small 217 = .ok (.invokevirtual 58, 3) := by decide +kernel
theorem dL_small_220 : decode cL_small 220 = .ok (.iconst 1, 1) := by decide +kernel
theorem dL_small_221 : decode cL_small 221 = .ok (.if_icmp .ne 178, 3) := by decide +kernel
theorem dL_small_224 : decode cL_small 224 = .ok (.aload_n 0, 1) := by decide +kernel
theorem dL_small_225 : decode cL_small 225 = .ok (.iconst 0, 1) := by decide +kernel
theorem dL_small_226 : decode cL_small 226 = .ok (.iconst 0, 1) := by decide +kernel
theorem dL_small_227 : decode cL_small 227 = .ok (.invokevirtual 52, 3) := by decide +kernel
theorem dL_small_230 : decode cL_small 230 = .ok (.iconst 1, 1) := by decide +kernel
theorem dL_small_231 : decode cL_small 231 = .ok (.if_icmp .ne 168, 3) := by decide +kernel
theorem dL_small_234 : decode cL_small 234 = .ok (.aload_n 0, 1) := by decide +kernel
theorem dL_small_235 : decode cL_small 235 = .ok (.iconst 1, 1) := by decide +kernel
theorem dL_small_236 : decode cL_small 236 = .ok (.iconst 0, 1) := by decide +kernel
theorem dL_small_237 : decode cL_small 237 = .ok (.invokevirtual 52, 3) := by decide +kernel
theorem dL_small_240 : decode cL_small 240 = .ok (.ifCond .ne 159, 3) := by decide +kernel
theorem dL_small_243 : decode cL_small 243 = .ok (.aload_n 0, 1) := by decide +kernel
theorem dL_small_244 : decode cL_small 244 = .ok (.iconst 0, 1) := by decide +kernel
theorem dL_small_245 : decode cL_small 245 = .ok (.iconst 1, 1) := by decide +kernel
theorem dL_small_246 : decode cL_small 246 = .ok (.invokevirtual 52, 3) := by decide +kernel
theorem dL_small_249 : decode cL_small 249 = .ok (.iconst (-1), 1) := by decide +kernel
theorem dL_small_250 : decode cL_small 250 = .ok (.if_icmp .ne 149, 3) := by decide +kernel
theorem dL_small_253 : decode cL_small 253 = .ok (.aload_n 0, 1) := by decide +kernel
theorem dL_small_254 : decode cL_small 254 = .ok (.iconst 1, 1) := by decide +kernel
theorem dL_small_255 : decode cL_small 255 = .ok (.iconst 2, 1) := by decide +kernel
theorem dL_small_256 : decode cL_small 256 = .ok (.invokevirtual 52, 3) := by decide +kernel
theorem dL_small_259 : decode cL_small 259 = .ok (.iconst (-1), 1) := by decide +kernel
theorem dL_small_260 : decode cL_small 260 = .ok (.if_icmp .ne 139, 3) := by decide +kernel
theorem dL_small_263 : decode cL_small 263 = .ok (.aload_n 0, 1) := by decide +kernel
theorem dL_small_264 : decode cL_small 264 = .ok (.iconst 1, 1) := by decide +kernel
theorem dL_small_265 : decode cL_small 265 = .ok (.invokevirtual 55, 3) := by decide +kernel
theorem dL_small_268 : decode cL_small 268 = .ok (.iconst (-1), 1) := by decide +kernel
theorem dL_small_269 : decode cL_small 269 = .ok (.if_icmp .ne 130, 3) := by decide +kernel
theorem dL_small_272 : decode cL_small 272 = .ok (.aload_n 0, 1) := by decide +kernel
theorem dL_small_273 : decode cL_small 273 = .ok (.iconst 2, 1) := by decide +kernel
theorem dL_small_274 : decode cL_small 274 = .ok (.invokevirtual 55, 3) := by decide +kernel
theorem dL_small_277 : decode cL_small 277 = .ok (.iconst (-1), 1) := by decide +kernel
theorem dL_small_278 : decode cL_small 278 = .ok (.if_icmp .ne 121, 3) := by decide +kernel
theorem dL_small_281 : decode cL_small 281 = .ok (.aload_n 0, 1) := by decide +kernel
theorem dL_small_282 : decode cL_small 282 = .ok (.iconst 0, 1) := by decide +kernel
theorem dL_small_283 : decode cL_small 283 = .ok (.invokevirtual 55, 3) := by decide +kernel
theorem dL_small_286 : decode cL_small 286 = .ok (.iconst 4, 1) := by decide +kernel
theorem dL_small_287 : decode cL_small 287 = .ok (.if_icmp .ne 112, 3) := by decide +kernel
theorem dL_small_290 : decode cL_small 290 = .ok (.aload_n 0, 1) := by decide +kernel
theorem dL_small_291 : decode cL_small 291 = .ok (.invokevirtual 111, 3) := by decide +kernel
theorem dL_small_294 : decode cL_small 294 = .ok (.dconst 0, 1) := by decide +kernel
theorem dL_small_295 : decode cL_small 295 = .ok (.dcmp .l, 1) := by decide +kernel
theorem dL_small_296 : decode cL_small 296 = .ok (.ifCond .ne 103, 3) := by decide +kernel
theorem dL_small_299 : decode cL_small 299 = .ok (.aload_n 0, 1) := by decide +kernel
theorem dL_small_300 : decode cL_small 300 = .ok (.bipush 7, 2) := by decide +kernel
theorem dL_small_302 : decode cL_small 302 = .ok (.invokevirtual 61, 3) := by decide +kernel
theorem dL_small_305 : decode cL_small 305 = .ok (.iconst 1, 1) := by decide +kernel
theorem dL_small_306 : decode cL_small 306 = .ok (.if_icmp .ne 93, 3) := by decide +kernel
theorem dL_small_309 : decode cL_small 309 = .ok (.aload_n 0, 1) := by decide +kernel
theorem dL_small_310 : decode cL_small 310 = .ok (.iconst 3, 1) := by decide +kernel
theorem dL_small_311 : decode cL_small 311 = .ok (.iconst 1, 1) := by decide +kernel
theorem dL_small_312 : decode cL_small 312 = .ok (.iconst 0, 1) := by decide +kernel
theorem dL_small_313 : decode cL_small 313 = .ok (.iconst 0, 1) := by decide +kernel
theorem dL_small_314 : decode cL_small 314 = .ok (.iconst 0, 1) := by decide +kernel
theorem dL_small_315 : decode cL_small 315 = .ok (.invokestatic 97, 3) := by decide +kernel
theorem dL_small_318 : decode cL_small 318 = .ok (.bipush (-13), 2) := by decide +kernel
theorem dL_small_320 : decode cL_small 320 = .ok (.if_icmp .ne 79, 3) := by decide +kernel
theorem dL_small_323 : decode cL_small 323 = .ok (.aload_n 0, 1) := by decide +kernel
theorem dL_small_324 : decode cL_small 324 = .ok (.iconst 3, 1) := by decide +kernel
theorem dL_small_325 : decode cL_small 325 = .ok (.iconst 2, 1) := by decide +kernel
theorem dL_small_326 : decode cL_small 326 = .ok (.iconst 0, 1) := by decide +kernel
theorem dL_small_327 : decode cL_small 327 = .ok (.iconst 0, 1) := by decide +kernel
theorem dL_small_328 : decode cL_small 328 = .ok (.iconst 0, 1) := by decide +kernel
theorem dL_small_329 : decode cL_small 329 = .ok (.invokestatic 97, 3) := by decide +kernel
theorem dL_small_332 : decode cL_small 332 = .ok (.bipush (-13), 2) := by decide +kernel
theorem dL_small_334 : decode cL_small 334 = .ok (.if_icmp .ne 65, 3) := by decide +kernel
theorem dL_small_337 : decode cL_small 337 = .ok (.aload_n 0, 1) := by decide +kernel
theorem dL_small_338 : decode cL_small 338 = .ok (.iconst 0, 1) := by decide +kernel
theorem dL_small_339 : decode cL_small 339 = .ok (.invokevirtual 23, 3) := by decide +kernel
theorem dL_small_342 : decode cL_small 342 = .ok (.iconst 4, 1) := by decide +kernel
theorem dL_small_343 : decode cL_small 343 = .ok (.if_icmp .ne 56, 3) := by decide +kernel
theorem dL_small_346 : decode cL_small 346 = .ok (.aload_n 0, 1) := by decide +kernel
theorem dL_small_347 : decode cL_small 347 = .ok (.iconst 0, 1) := by decide +kernel
theorem dL_small_348 : decode cL_small 348 = .ok (.invokevirtual 40, 3) := by decide +kernel
theorem dL_small_351 : decode cL_small 351 = .ok (.iconst 2, 1) := by decide +kernel
theorem dL_small_352 : decode cL_small 352 = .ok (.if_icmp .ne 47, 3) := by decide +kernel
theorem dL_small_355 : decode cL_small 355 = .ok (.aload_n 0, 1) := by decide +kernel
theorem dL_small_356 : decode cL_small 356 = .ok (.invokevirtual 121, 3) := by decide +kernel
theorem dL_small_359 : decode cL_small 359 = .ok (.ifCond .ne 40, 3) := by decide +kernel
theorem dL_small_362 : decode cL_small 362 = .ok (.aload_n 0, 1) := by decide +kernel
theorem dL_small_363 : decode cL_small 363 = .ok (.iconst 1, 1) := by decide +kernel
theorem dL_small_364 : decode cL_small 364 = .ok (.iconst 0, 1) := by decide +kernel
theorem dL_small_365 : decode cL_small 365 = .ok (.invokevirtual 49, 3) := by decide +kernel
theorem dL_small_368 : decode cL_small 368 = .ok (.iconst 3, 1) := by decide +kernel
theorem dL_small_369 : decode cL_small 369 = .ok (.if_icmp .ne 30, 3) := by decide +kernel
theorem dL_small_372 : decode cL_small 372 = .ok (.aload_n 0, 1) := by decide +kernel
theorem dL_small_373 : decode cL_small 373 = .ok (.iconst 3, 1) := by decide +kernel
theorem dL_small_374 : decode cL_small 374 = .ok (.invokevirtual 58, 3) := by decide +kernel
theorem dL_small_377 : decode cL_small 377 = .ok (.ifCond .ne 22, 3) := by decide +kernel
theorem dL_small_380 : decode cL_small 380 = .ok (.aload_n 0, 1) := by decide +kernel
theorem dL_small_381 : decode cL_small 381 = .ok (.bipush 6, 2) := by decide +kernel
theorem dL_small_383 : decode cL_small 383 = .ok (.invokevirtual 61, 3) := by decide +kernel
theorem dL_small_386 : decode cL_small 386 = .ok (.iconst 1, 1) := by decide +kernel
theorem dL_small_387 : decode cL_small 387 = .ok (.if_icmp .ne 12, 3) := by decide +kernel
theorem dL_small_390 : decode cL_small 390 = .ok (.aload_n 0, 1) := by decide +kernel
theorem dL_small_391 : decode cL_small 391 = .ok (.bipush 7, 2) := by decide +kernel
theorem dL_small_393 : decode cL_small 393 = .ok (.invokevirtual 61, 3) := by decide +kernel
theorem dL_small_396 : decode cL_small 396 = .ok (.ifCond .eq 5, 3) := by decide +kernel
theorem dL_small_399 : decode cL_small 399 = .ok (.iconst 0, 1) := by decide +kernel
theorem dL_small_400 : decode cL_small 400 = .ok (.ireturn, 1) := by decide +kernel
theorem dL_small_401 : decode cL_small 401 = .ok (.aload_n 0, 1) := by decide +kernel
theorem dL_small_402 : decode cL_small 402 = .ok (.iconst 1, 1) := by decide +kernel
theorem dL_small_403 : decode cL_small 403 = .ok (.iconst 1, 1) := by decide +kernel
theorem dL_small_404 : decode cL_small 404 = .ok (.invokevirtual 52, 3) := by decide +kernel
theorem dL_small_407 : decode cL_small 407 = .ok (.iconst 1, 1) := by decide +kernel
theorem dL_small_408 : decode cL_small 408 = .ok (.if_icmp .ne 223, 3) := by decide +kernel
theorem dL_small_411 : decode cL_small 411 = .ok (.aload_n 0, 1) := by decide +kernel
theorem dL_small_412 : decode cL_small 412 = .ok (.iconst 0, 1) := by decide +kernel
theorem dL_small_413 : decode cL_small 413 = .ok (.iconst 2, 1) := by decide +kernel
theorem dL_small_414 : decode cL_small 414 = .ok (.invokevirtual 52, 3) := by decide +kernel
theorem dL_small_417 : decode cL_small 417 = .ok (.iconst 1, 1) := by decide +kernel
theorem dL_small_418 : decode cL_small 418 = .ok (.if_icmp .ne 213, 3) := by decide +kernel
theorem dL_small_421 : decode cL_small 421 = .ok (.aload_n 0, 1) := by decide +kernel
theorem dL_small_422 : decode cL_small 422 = .ok (.iconst 1, 1) := by decide +kernel
theorem dL_small_423 : decode cL_small 423 = .ok (.invokevirtual 55, 3) := by decide +kernel
theorem dL_small_426 : decode cL_small 426 = .ok (.iconst 3, 1) := by decide +kernel
theorem dL_small_427 : decode cL_small 427 = .ok (.if_icmp .ne 204, 3) := by decide +kernel
theorem dL_small_430 : decode cL_small 430 = .ok (.aload_n 0, 1) := by decide +kernel
theorem dL_small_431 : decode cL_small 431 = .ok (.iconst 2, 1) := by decide +kernel
theorem dL_small_432 : decode cL_small 432 = .ok (.invokevirtual 55, 3) := by decide +kernel
theorem dL_small_435 : decode cL_small 435 = .ok (.iconst 4, 1) := by decide +kernel
theorem dL_small_436 : decode cL_small 436 = .ok (.if_icmp .ne 195, 3) := by decide +kernel
theorem dL_small_439 : decode cL_small 439 = .ok (.aload_n 0, 1) := by decide +kernel
theorem dL_small_440 : decode cL_small 440 = .ok (.invokevirtual 88, 3) := by decide +kernel
theorem dL_small_443 : decode cL_small 443 = .ok (.bipush 8, 2) := by decide +kernel
theorem dL_small_445 : decode cL_small 445 = .ok (.if_icmp .ne 186, 3) := by decide +kernel
theorem dL_small_448 : decode cL_small 448 = .ok (.aload_n 0, 1) := by decide +kernel
theorem dL_small_449 : decode cL_small 449 = .ok (.invokevirtual 111, 3) := by decide +kernel
theorem dL_small_452 : decode cL_small 452 = .ok (.ldc2_w 124, 3) := by decide +kernel
theorem dL_small_455 : decode cL_small 455 = .ok (.dcmp .l, 1) := by decide +kernel
theorem dL_small_456 : decode cL_small 456 = .ok (.ifCond .ne 175, 3) := by decide +kernel
theorem dL_small_459 : decode cL_small 459 = .ok (.aload_n 0, 1) := by decide +kernel
theorem dL_small_460 : decode cL_small 460 = .ok (.iconst 1, 1) := by decide +kernel
theorem dL_small_461 : decode cL_small 461 = .ok (.invokevirtual 23, 3) := by decide +kernel
theorem dL_small_464 : decode cL_small 464 = .ok (.iconst 3, 1) := by decide +kernel
theorem dL_small_465 : decode cL_small 465 = .ok (.if_icmp .ne 166, 3) := by decide +kernel
theorem dL_small_468 : decode cL_small 468 = .ok (.aload_n 0, 1) := by decide +kernel
theorem dL_small_469 : decode cL_small 469 = .ok (.iconst 2, 1) := by decide +kernel
theorem dL_small_470 : decode cL_small 470 = .ok (.invokevirtual 23, 3) := by decide +kernel
theorem dL_small_473 : decode cL_small 473 = .ok (.iconst 4, 1) := by decide +kernel
theorem dL_small_474 : decode cL_small 474 = .ok (.if_icmp .ne 157, 3) := by decide +kernel
theorem dL_small_477 : decode cL_small 477 = .ok (.aload_n 0, 1) := by decide +kernel
theorem dL_small_478 : decode cL_small 478 = .ok (.iconst 4, 1) := by decide +kernel
theorem dL_small_479 : decode cL_small 479 = .ok (.invokevirtual 61, 3) := by decide +kernel
theorem dL_small_482 : decode cL_small 482 = .ok (.bipush 11, 2) := by decide +kernel
theorem dL_small_484 : decode cL_small 484 = .ok (.if_icmp .ne 147, 3) := by decide +kernel
theorem dL_small_487 : decode cL_small 487 = .ok (.aload_n 0, 1) := by decide +kernel
theorem dL_small_488 : decode cL_small 488 = .ok (.iconst 5, 1) := by decide +kernel
theorem dL_small_489 : decode cL_small 489 = .ok (.invokevirtual 61, 3) := by decide +kernel
theorem dL_small_492 : decode cL_small 492 = .ok (.iconst 3, 1) := by decide +kernel
theorem dL_small_493 : decode cL_small 493 = .ok (.if_icmp .ne 138, 3) := by decide +kernel
theorem dL_small_496 : decode cL_small 496 = .ok (.aload_n 0, 1) := by decide +kernel
theorem dL_small_497 : decode cL_small 497 = .ok (.bipush 8, 2) := by decide +kernel
theorem dL_small_499 : decode cL_small 499 = .ok (.invokevirtual 61, 3) := by decide +kernel
theorem dL_small_502 : decode cL_small 502 = .ok (.bipush 6, 2) := by decide +kernel
theorem dL_small_504 : decode cL_small 504 = .ok (.if_icmp .ne 127, 3) := by decide +kernel
theorem dL_small_507 : decode cL_small 507 = .ok (.aload_n 0, 1) := by decide +kernel
theorem dL_small_508 : decode cL_small 508 = .ok (.invokevirtual 121, 3) := by decide +kernel
theorem dL_small_511 : decode cL_small 511 = .ok (.iconst (-1), 1) := by decide +kernel
theorem dL_small_512 : decode cL_small 512 = .ok (.if_icmp .ne 119, 3) := by decide +kernel
theorem dL_small_515 : decode cL_small 515 = .ok (.aload_n 0, 1) := by decide +kernel
theorem dL_small_516 : decode cL_small 516 = .ok (.bipush 6, 2) := by decide +kernel
theorem dL_small_518 : decode cL_small 518 = .ok (.invokevirtual 61, 3) := by decide +kernel
theorem dL_small_521 : decode cL_small 521 = .ok (.iconst 1, 1) := by decide +kernel
theorem dL_small_522 : decode cL_small 522 = .ok (.if_icmp .ne 109, 3) := by decide +kernel
theorem dL_small_525 : decode cL_small 525 = .ok (.aload_n 0, 1) := by decide +kernel
theorem dL_small_526 : decode cL_small 526 = .ok (.invokevirtual 46, 3) := by decide +kernel
theorem dL_small_529 : decode cL_small 529 = .ok (.iconst 5, 1) := by decide +kernel
theorem dL_small_530 : decode cL_small 530 = .ok (.if_icmp .ne 101, 3) := by decide +kernel
theorem dL_small_533 : decode cL_small 533 = .ok (.aload_n 0, 1) := by decide +kernel
theorem dL_small_534 : decode cL_small 534 = .ok (.iconst 5, 1) := by decide +kernel
theorem dL_small_535 : decode cL_small 535 = .ok (.invokevirtual 61, 3) := by decide +kernel
theorem dL_small_538 : decode cL_small 538 = .ok (.iconst 3, 1) := by decide +kernel
theorem dL_small_539 : decode cL_small 539 = .ok (.if_icmp .ne 92, 3) := by decide +kernel
theorem dL_small_542 : decode cL_small 542 = .ok (.aload_n 0, 1) := by decide +kernel
theorem dL_small_543 : decode cL_small 543 = .ok (.iconst 1, 1) := by decide +kernel
theorem dL_small_544 : decode cL_small 544 = .ok (.iconst 1, 1) := by decide +kernel
theorem dL_small_545 : decode cL_small 545 = .ok (.sipush 9999, 3) := by decide +kernel
theorem dL_small_548 : decode cL_small 548 = .ok (.invokevirtual 15, 3) := by decide +kernel
theorem dL_small_551 : decode cL_small 551 = .ok (.iconst 2, 1) := by decide +kernel
theorem dL_small_552 : decode cL_small 552 = .ok (.if_icmp .ne 79, 3) := by decide +kernel
theorem dL_small_555 : decode cL_small 555 = .ok (.aload_n 0, 1) := by decide +kernel
theorem dL_small_556 : decode cL_small 556 = .ok (.iconst 3, 1) := by decide +kernel
theorem dL_small_557 : decode cL_small 557 = .ok (.invokevirtual 58, 3) := by decide +kernel
theorem dL_small_560 : decode cL_small 560 = .ok (.iconst 1, 1) := by decide +kernel
theorem dL_small_561 : decode cL_small 561 = .ok (.if_icmp .ne 70, 3) := by decide +kernel
theorem dL_small_564 : decode cL_small 564 = .ok (.aload_n 0, 1) := by decide +kernel
theorem dL_small_565 : decode cL_small 565 = .ok (.invokevirtual 121, 3) := by decide +kernel
theorem dL_small_568 : decode cL_small 568 = .ok (.iconst (-1), 1) := by decide +kernel
theorem dL_small_569 : decode cL_small 569 = .ok (.if_icmp .ne 62, 3) := by decide +kernel
theorem dL_small_572 : decode cL_small 572 = .ok (.aload_n 0, 1) := by decide +kernel
theorem dL_small_573 : decode cL_small 573 = .ok (.iconst 3, 1) := by decide +kernel
theorem dL_small_574 : decode cL_small 574 = .ok (.invokevirtual 58, 3) := by decide +kernel
theorem dL_small_577 : decode cL_small 577 = .ok (.iconst 1, 1) := by decide +kernel
theorem dL_small_578 : decode cL_small 578 = .ok (.if_icmp .ne 53, 3) := by decide +kernel
theorem dL_small_581 : decode cL_small 581 = .ok (.aload_n 0, 1) := by decide +kernel
theorem dL_small_582 : decode cL_small 582 = .ok (.bipush 6, 2) := by decide +kernel
theorem dL_small_584 : decode cL_small 584 = .ok (.invokevirtual 61, 3) := by decide +kernel
theorem dL_small_587 : decode cL_small 587 = .ok (.iconst 1, 1) := by decide +kernel
theorem dL_small_588 : decode cL_small 588 = .ok (.if_icmp .ne 43, 3) := by decide +kernel
theorem dL_small_591 : decode cL_small 591 = .ok (.aload_n 0, 1) := by decide +kernel
theorem dL_small_592 : decode cL_small 592 = .ok (.iconst 1, 1) := by decide +kernel
theorem dL_small_593 : decode cL_small 593 = .ok (.iconst 0, 1) := by decide +kernel
theorem dL_small_594 : decode cL_small 594 = .ok (.sipush 9999, 3) := by decide +kernel
theorem dL_small_597 : decode cL_small 597 = .ok (.invokevirtual 15, 3) := by decide +kernel
theorem dL_small_600 : decode cL_small 600 = .ok (.iconst 3, 1) := by decide +kernel
theorem dL_small_601 : decode cL_small 601 = .ok (.if_icmp .ne 30, 3) := by decide +kernel
theorem dL_small_604 : decode cL_small 604 = .ok (.aload_n 0, 1) := by decide +kernel
theorem dL_small_605 : decode cL_small 605 = .ok (.invokevirtual 121, 3) := by decide +kernel
theorem dL_small_608 : decode cL_small 608 = .ok (.iconst (-1), 1) := by decide +kernel
theorem dL_small_609 : decode cL_small 609 = .ok (.if_icmp .ne 22, 3) := by decide +kernel
theorem dL_small_612 : decode cL_small 612 = .ok (.aload_n 0, 1) := by decide +kernel
theorem dL_small_613 : decode cL_small 613 = .ok (.iconst 0, 1) := by decide +kernel
theorem dL_small_614 : decode cL_small 614 = .ok (.iconst 0, 1) := by decide +kernel
theorem dL_small_615 : decode cL_small 615 = .ok (.iconst 3, 1) := by decide +kernel
theorem dL_small_616 : decode cL_small 616 = .ok (.invokevirtual 15, 3) := by decide +kernel
theorem dL_small_619 : decode cL_small 619 = .ok (.iconst 5, 1) := by decide +kernel
theorem dL_small_620 : decode cL_small 620 = .ok (.if_icmp .ne 11, 3) := by decide +kernel
theorem dL_small_623 : decode cL_small 623 = .ok (.aload_n 0, 1) := by decide +kernel
theorem dL_small_624 : decode cL_small 624 = .ok (.iconst 3, 1) := by decide +kernel
theorem dL_small_625 : decode cL_small 625 = .ok (.invokevirtual 58, 3) := by decide +kernel
theorem dL_small_628 : decode cL_small 628 = .ok (.ifCond .eq 5, 3) := by decide +kernel
theorem dL_small_631 : decode cL_small 631 = .ok (.iconst 0, 1) := by decide +kernel
theorem dL_small_632 : decode cL_small 632 = .ok (.ireturn, 1) := by decide +kernel
theorem dL_small_633 : decode cL_small 633 = .ok (.aload_n 0, 1) := by decide +kernel
theorem dL_small_634 : decode cL_small 634 = .ok (.iconst 3, 1) := by decide +kernel
theorem dL_small_635 : decode cL_small 635 = .ok (.iconst 4, 1) := by decide +kernel
theorem dL_small_636 : decode cL_small 636 = .ok (.invokevirtual 9, 3) := by decide +kernel
theorem dL_small_639 : decode cL_small 639 = .ok (.bipush 24, 2) := by decide +kernel
theorem dL_small_641 : decode cL_small 641 = .ok (.if_icmp .ne 125, 3) := by decide +kernel
theorem dL_small_644 : decode cL_small 644 = .ok (.aload_n 0, 1) := by decide +kernel
theorem dL_small_645 : decode cL_small 645 = .ok (.iconst 0, 1) := by decide +kernel
theorem dL_small_646 : decode cL_small 646 = .ok (.iconst 2, 1) := by decide +kernel
theorem dL_small_647 : decode cL_small 647 = .ok (.iconst 0, 1) := by decide +kernel
theorem dL_small_648 : decode cL_small 648 = .ok (.iconst 1, 1) := by decide +kernel
theorem dL_small_649 : decode cL_small 649 = .ok (.invokevirtual 19, 3) := by decide +kernel
theorem dL_small_652 : decode cL_small 652 = .ok (.iconst 1, 1) := by decide +kernel
theorem dL_small_653 : decode cL_small 653 = .ok (.if_icmp .ne 113, 3) := by decide +kernel
theorem dL_small_656 : decode cL_small 656 = .ok (.aload_n 0, 1) := by decide +kernel
theorem dL_small_657 : decode cL_small 657 = .ok (.iconst 2, 1) := by decide +kernel
theorem dL_small_658 : decode cL_small 658 = .ok (.iconst 0, 1) := by decide +kernel
theorem dL_small_659 : decode cL_small 659 = .ok (.invokevirtual 49, 3) := by decide +kernel
theorem dL_small_662 : decode cL_small 662 = .ok (.bipush 16, 2) := by decide +kernel
theorem dL_small_664 : decode cL_small 664 = .ok (.if_icmp .ne 102, 3) := by decide +kernel
theorem dL_small_667 : decode cL_small 667 = .ok (.aload_n 0, 1) := by decide +kernel
theorem dL_small_668 : decode cL_small 668 = .ok (.iconst 1, 1) := by decide +kernel
theorem dL_small_669 : decode cL_small 669 = .ok (.iconst 2, 1) := by decide +kernel
theorem dL_small_670 : decode cL_small 670 = .ok (.invokevirtual 49, 3) := by decide +kernel
theorem dL_small_673 : decode cL_small 673 = .ok (.ifCond .ne 93, 3) := by decide +kernel
theorem dL_small_676 : decode cL_small 676 = .ok (.aload_n 0, 1) := by decide +kernel
theorem dL_small_677 : decode cL_small 677 = .ok (.iconst 0, 1) := by decide +kernel
theorem dL_small_678 : decode cL_small 678 = .ok (.iconst 3, 1) := by decide +kernel
theorem dL_small_679 : decode cL_small 679 = .ok (.invokevirtual 49, 3) := by decide +kernel
theorem dL_small_682 : decode cL_small 682 = .ok (.bipush 9, 2) := by decide +kernel
theorem dL_small_684 : decode cL_small 684 = .ok (.if_icmp .ne 82, 3) := by decide +kernel
theorem dL_small_687 : decode cL_small 687 = .ok (.aload_n 0, 1) := by decide +kernel
theorem dL_small_688 : decode cL_small 688 = .ok (.iconst 0, 1) := by decide +kernel
theorem dL_small_689 : decode cL_small 689 = .ok (.iconst 1, 1) := by decide +kernel
theorem dL_small_690 : decode cL_small 690 = .ok (.invokevirtual 52, 3) := by decide +kernel
theorem dL_small_693 : decode cL_small 693 = .ok (.ifCond .ne 73, 3) := by decide +kernel
theorem dL_small_696 : decode cL_small 696 = .ok (.aload_n 0, 1) := by decide +kernel
theorem dL_small_697 : decode cL_small 697 = .ok (.iconst 1, 1) := by decide +kernel
theorem dL_small_698 : decode cL_small 698 = .ok (.iconst 1, 1) := by decide +kernel
theorem dL_small_699 : decode cL_small 699 = .ok (.invokevirtual 52, 3) := by decide +kernel
theorem dL_small_702 : decode cL_small 702 = .ok (.iconst 2, 1) := by decide +kernel
end
section
theorem dL_small_703 : decode cL_small 703 = .ok (.if_icmp .ne 63, 3) := by decide +kernel
theorem dL_small_706 : decode cL_small 706 = .ok (.aload_n 0, 1) := by decide +kernel
theorem dL_small_707 : decode cL_small 707 = .ok (.iconst 2, 1) := by decide +kernel
theorem dL_small_708 : decode cL_small 708 = .ok (.iconst 2, 1) := by decide +kernel
theorem dL_small_709 : decode cL_small 709 = .ok (.invokevirtual 52, 3) := by decide +kernel
theorem dL_small_712 : decode cL_small 712 = .ok (.iconst 3, 1) := by decide +kernel
theorem dL_small_713 : decode cL_small 713 = .ok (.if_icmp .ne 53, 3) := by decide +kernel
theorem dL_small_716 : decode cL_small 716 = .ok (.aload_n 0, 1) := by decide +kernel
theorem dL_small_717 : decode cL_small 717 = .ok (.iconst 1, 1) := by decide +kernel
theorem dL_small_718 : decode cL_small 718 = .ok (.invokevirtual 55, 3) := by decide +kernel
theorem dL_small_721 : decode cL_small 721 = .ok (.bipush 9, 2) := by decide +kernel
theorem dL_small_723 : decode cL_small 723 = .ok (.if_icmp .ne 43, 3) := by decide +kernel
theorem dL_small_726 : decode cL_small 726 = .ok (.aload_n 0, 1) := by decide +kernel
theorem dL_small_727 : decode cL_small 727 = .ok (.iconst 2, 1) := by decide +kernel
theorem dL_small_728 : decode cL_small 728 = .ok (.invokevirtual 55, 3) := by decide +kernel
theorem dL_small_731 : decode cL_small 731 = .ok (.bipush 17, 2) := by decide +kernel
theorem dL_small_733 : decode cL_small 733 = .ok (.if_icmp .ne 33, 3) := by decide +kernel
theorem dL_small_736 : decode cL_small 736 = .ok (.aload_n 0, 1) := by decide +kernel
theorem dL_small_737 : decode cL_small 737 = .ok (.invokevirtual 88, 3) := by decide +kernel
theorem dL_small_740 : decode cL_small 740 = .ok (.bipush 14, 2) := by decide +kernel
theorem dL_small_742 : decode cL_small 742 = .ok (.if_icmp .ne 24, 3) := by decide +kernel
theorem dL_small_745 : decode cL_small 745 = .ok (.aload_n 0, 1) := by decide +kernel
theorem dL_small_746 : decode cL_small 746 = .ok (.iconst 0, 1) := by decide +kernel
theorem dL_small_747 : decode cL_small 747 = .ok (.invokevirtual 55, 3) := by decide +kernel
theorem dL_small_750 : decode cL_small 750 = .ok (.bipush 12, 2) := by decide +kernel
theorem dL_small_752 : decode cL_small 752 = .ok (.if_icmp .ne 14, 3) := by decide +kernel
theorem dL_small_755 : decode cL_small 755 = .ok (.aload_n 0, 1) := by decide +kernel
theorem dL_small_756 : decode cL_small 756 = .ok (.invokevirtual 111, 3) := by decide +kernel
theorem dL_small_759 : decode cL_small 759 = .ok (.ldc2_w 124, 3) := by decide +kernel
theorem dL_small_762 : decode cL_small 762 = .ok (.dcmp .l, 1) := by decide +kernel
theorem dL_small_763 : decode cL_small 763 = .ok (.ifCond .eq 5, 3) := by decide +kernel
theorem dL_small_766 : decode cL_small 766 = .ok (.iconst 0, 1) := by decide +kernel
theorem dL_small_767 : decode cL_small 767 = .ok (.ireturn, 1) := by decide +kernel
theorem dL_small_768 : decode cL_small 768 = .ok (.aload_n 0, 1) := by decide +kernel
theorem dL_small_769 : decode cL_small 769 = .ok (.iconst 4, 1) := by decide +kernel
theorem dL_small_770 : decode cL_small 770 = .ok (.iconst 0, 1) := by decide +kernel
theorem dL_small_771 : decode cL_small 771 = .ok (.iconst 2, 1) := by decide +kernel
theorem dL_small_772 : decode cL_small 772 = .ok (.iconst 1, 1) := by decide +kernel
theorem dL_small_773 : decode cL_small 773 = .ok (.invokevirtual 19, 3) := by decide +kernel
theorem dL_small_776 : decode cL_small 776 = .ok (.iconst 1, 1) := by decide +kernel
theorem dL_small_777 : decode cL_small 777 = .ok (.if_icmp .ne 125, 3) := by decide +kernel
theorem dL_small_780 : decode cL_small 780 = .ok (.aload_n 0, 1) := by decide +kernel
theorem dL_small_781 : decode cL_small 781 = .ok (.iconst 2, 1) := by decide +kernel
theorem dL_small_782 : decode cL_small 782 = .ok (.iconst 0, 1) := by decide +kernel
theorem dL_small_783 : decode cL_small 783 = .ok (.invokevirtual 52, 3) := by decide +kernel
theorem dL_small_786 : decode cL_small 786 = .ok (.iconst 2, 1) := by decide +kernel
theorem dL_small_787 : decode cL_small 787 = .ok (.if_icmp .ne 115, 3) := by decide +kernel
theorem dL_small_790 : decode cL_small 790 = .ok (.aload_n 0, 1) := by decide +kernel
theorem dL_small_791 : decode cL_small 791 = .ok (.iconst 0, 1) := by decide +kernel
theorem dL_small_792 : decode cL_small 792 = .ok (.iconst 2, 1) := by decide +kernel
theorem dL_small_793 : decode cL_small 793 = .ok (.invokevirtual 52, 3) := by decide +kernel
theorem dL_small_796 : decode cL_small 796 = .ok (.iconst 2, 1) := by decide +kernel
theorem dL_small_797 : decode cL_small 797 = .ok (.if_icmp .ne 105, 3) := by decide +kernel
theorem dL_small_800 : decode cL_small 800 = .ok (.aload_n 0, 1) := by decide +kernel
theorem dL_small_801 : decode cL_small 801 = .ok (.iconst 1, 1) := by decide +kernel
theorem dL_small_802 : decode cL_small 802 = .ok (.bipush 10, 2) := by decide +kernel
theorem dL_small_804 : decode cL_small 804 = .ok (.invokevirtual 9, 3) := by decide +kernel
theorem dL_small_807 : decode cL_small 807 = .ok (.bipush 37, 2) := by decide +kernel
theorem dL_small_809 : decode cL_small 809 = .ok (.if_icmp .ne 93, 3) := by decide +kernel
theorem dL_small_812 : decode cL_small 812 = .ok (.aload_n 0, 1) := by decide +kernel
theorem dL_small_813 : decode cL_small 813 = .ok (.iconst 0, 1) := by decide +kernel
theorem dL_small_814 : decode cL_small 814 = .ok (.iconst 0, 1) := by decide +kernel
theorem dL_small_815 : decode cL_small 815 = .ok (.bipush 50, 2) := by decide +kernel
theorem dL_small_817 : decode cL_small 817 = .ok (.bipush 9, 2) := by decide +kernel
theorem dL_small_819 : decode cL_small 819 = .ok (.invokevirtual 19, 3) := by decide +kernel
theorem dL_small_822 : decode cL_small 822 = .ok (.iconst 1, 1) := by decide +kernel
theorem dL_small_823 : decode cL_small 823 = .ok (.if_icmp .ne 79, 3) := by decide +kernel
theorem dL_small_826 : decode cL_small 826 = .ok (.aload_n 0, 1) := by decide +kernel
theorem dL_small_827 : decode cL_small 827 = .ok (.iconst 0, 1) := by decide +kernel
theorem dL_small_828 : decode cL_small 828 = .ok (.iconst 5, 1) := by decide +kernel
theorem dL_small_829 : decode cL_small 829 = .ok (.invokevirtual 49, 3) := by decide +kernel
theorem dL_small_832 : decode cL_small 832 = .ok (.sipush 9025, 3) := by decide +kernel
theorem dL_small_835 : decode cL_small 835 = .ok (.if_icmp .ne 67, 3) := by decide +kernel
theorem dL_small_838 : decode cL_small 838 = .ok (.aload_n 0, 1) := by decide +kernel
theorem dL_small_839 : decode cL_small 839 = .ok (.iconst 0, 1) := by decide +kernel
theorem dL_small_840 : decode cL_small 840 = .ok (.bipush 6, 2) := by decide +kernel
theorem dL_small_842 : decode cL_small 842 = .ok (.invokevirtual 49, 3) := by decide +kernel
theorem dL_small_845 : decode cL_small 845 = .ok (.sipush 9999, 3) := by decide +kernel
theorem dL_small_848 : decode cL_small 848 = .ok (.if_icmp .ne 54, 3) := by decide +kernel
theorem dL_small_851 : decode cL_small 851 = .ok (.aload_n 0, 1) := by decide +kernel
theorem dL_small_852 : decode cL_small 852 = .ok (.iconst 0, 1) := by decide +kernel
theorem dL_small_853 : decode cL_small 853 = .ok (.bipush 9, 2) := by decide +kernel
theorem dL_small_855 : decode cL_small 855 = .ok (.invokevirtual 49, 3) := by decide +kernel
theorem dL_small_858 : decode cL_small 858 = .ok (.sipush 9999, 3) := by decide +kernel
theorem dL_small_861 : decode cL_small 861 = .ok (.if_icmp .ne 41, 3) := by decide +kernel
theorem dL_small_864 : decode cL_small 864 = .ok (.aload_n 0, 1) := by decide +kernel
theorem dL_small_865 : decode cL_small 865 = .ok (.iconst 0, 1) := by decide +kernel
theorem dL_small_866 : decode cL_small 866 = .ok (.iconst 2, 1) := by decide +kernel
theorem dL_small_867 : decode cL_small 867 = .ok (.invokevirtual 52, 3) := by decide +kernel
theorem dL_small_870 : decode cL_small 870 = .ok (.ifCond .ne 32, 3) := by decide +kernel
theorem dL_small_873 : decode cL_small 873 = .ok (.aload_n 0, 1) := by decide +kernel
theorem dL_small_874 : decode cL_small 874 = .ok (.iconst 1, 1) := by decide +kernel
theorem dL_small_875 : decode cL_small 875 = .ok (.invokevirtual 55, 3) := by decide +kernel
theorem dL_small_878 : decode cL_small 878 = .ok (.bipush 10, 2) := by decide +kernel
theorem dL_small_880 : decode cL_small 880 = .ok (.if_icmp .ne 22, 3) := by decide +kernel
theorem dL_small_883 : decode cL_small 883 = .ok (.aload_n 0, 1) := by decide +kernel
theorem dL_small_884 : decode cL_small 884 = .ok (.iconst 2, 1) := by decide +kernel
theorem dL_small_885 : decode cL_small 885 = .ok (.invokevirtual 55, 3) := by decide +kernel
theorem dL_small_888 : decode cL_small 888 = .ok (.bipush 19, 2) := by decide +kernel
theorem dL_small_890 : decode cL_small 890 = .ok (.if_icmp .ne 12, 3) := by decide +kernel
theorem dL_small_893 : decode cL_small 893 = .ok (.aload_n 0, 1) := by decide +kernel
theorem dL_small_894 : decode cL_small 894 = .ok (.invokevirtual 88, 3) := by decide +kernel
theorem dL_small_897 : decode cL_small 897 = .ok (.bipush 11, 2) := by decide +kernel
theorem dL_small_899 : decode cL_small 899 = .ok (.if_icmp .eq 5, 3) := by decide +kernel
theorem dL_small_902 : decode cL_small 902 = .ok (.iconst 0, 1) := by decide +kernel
theorem dL_small_903 : decode cL_small 903 = .ok (.ireturn, 1) := by decide +kernel
theorem dL_small_904 : decode cL_small 904 = .ok (.aload_n 0, 1) := by decide +kernel
theorem dL_small_905 : decode cL_small 905 = .ok (.iconst 2, 1) := by decide +kernel
theorem dL_small_906 : decode cL_small 906 = .ok (.bipush 10, 2) := by decide +kernel
theorem dL_small_908 : decode cL_small 908 = .ok (.invokevirtual 9, 3) := by decide +kernel
theorem dL_small_911 : decode cL_small 911 = .ok (.bipush 21, 2) := by decide +kernel
theorem dL_small_913 : decode cL_small 913 = .ok (.if_icmp .ne 78, 3) := by decide +kernel
theorem dL_small_916 : decode cL_small 916 = .ok (.aload_n 0, 1) := by decide +kernel
theorem dL_small_917 : decode cL_small 917 = .ok (.iconst 1, 1) := by decide +kernel
theorem dL_small_918 : decode cL_small 918 = .ok (.iconst 0, 1) := by decide +kernel
theorem dL_small_919 : decode cL_small 919 = .ok (.invokevirtual 49, 3) := by decide +kernel
theorem dL_small_922 : decode cL_small 922 = .ok (.iconst 4, 1) := by decide +kernel
theorem dL_small_923 : decode cL_small 923 = .ok (.if_icmp .ne 68, 3) := by decide +kernel
theorem dL_small_926 : decode cL_small 926 = .ok (.aload_n 0, 1) := by decide +kernel
theorem dL_small_927 : decode cL_small 927 = .ok (.iconst 1, 1) := by decide +kernel
theorem dL_small_928 : decode cL_small 928 = .ok (.iconst 4, 1) := by decide +kernel
theorem dL_small_929 : decode cL_small 929 = .ok (.invokevirtual 49, 3) := by decide +kernel
theorem dL_small_932 : decode cL_small 932 = .ok (.ifCond .ne 59, 3) := by decide +kernel
theorem dL_small_935 : decode cL_small 935 = .ok (.aload_n 0, 1) := by decide +kernel
theorem dL_small_936 : decode cL_small 936 = .ok (.iconst 0, 1) := by decide +kernel
theorem dL_small_937 : decode cL_small 937 = .ok (.invokevirtual 43, 3) := by decide +kernel
theorem dL_small_940 : decode cL_small 940 = .ok (.iconst 2, 1) := by decide +kernel
theorem dL_small_941 : decode cL_small 941 = .ok (.if_icmp .ne 50, 3) := by decide +kernel
theorem dL_small_944 : decode cL_small 944 = .ok (.aload_n 0, 1) := by decide +kernel
theorem dL_small_945 : decode cL_small 945 = .ok (.iconst 1, 1) := by decide +kernel
theorem dL_small_946 : decode cL_small 946 = .ok (.invokevirtual 61, 3) := by decide +kernel
theorem dL_small_949 : decode cL_small 949 = .ok (.iconst 2, 1) := by decide +kernel
theorem dL_small_950 : decode cL_small 950 = .ok (.if_icmp .ne 41, 3) := by decide +kernel
theorem dL_small_953 : decode cL_small 953 = .ok (.aload_n 0, 1) := by decide +kernel
theorem dL_small_954 : decode cL_small 954 = .ok (.iconst 3, 1) := by decide +kernel
theorem dL_small_955 : decode cL_small 955 = .ok (.invokevirtual 58, 3) := by decide +kernel
theorem dL_small_958 : decode cL_small 958 = .ok (.iconst 1, 1) := by decide +kernel
theorem dL_small_959 : decode cL_small 959 = .ok (.if_icmp .ne 32, 3) := by decide +kernel
theorem dL_small_962 : decode cL_small 962 = .ok (.aload_n 0, 1) := by decide +kernel
theorem dL_small_963 : decode cL_small 963 = .ok (.iconst 5, 1) := by decide +kernel
theorem dL_small_964 : decode cL_small 964 = .ok (.invokevirtual 61, 3) := by decide +kernel
theorem dL_small_967 : decode cL_small 967 = .ok (.iconst 1, 1) := by decide +kernel
theorem dL_small_968 : decode cL_small 968 = .ok (.if_icmp .ne 23, 3) := by decide +kernel
theorem dL_small_971 : decode cL_small 971 = .ok (.aload_n 0, 1) := by decide +kernel
theorem dL_small_972 : decode cL_small 972 = .ok (.bipush 6, 2) := by decide +kernel
theorem dL_small_974 : decode cL_small 974 = .ok (.invokevirtual 61, 3) := by decide +kernel
theorem dL_small_977 : decode cL_small 977 = .ok (.ifCond .ne 14, 3) := by decide +kernel
theorem dL_small_980 : decode cL_small 980 = .ok (.aload_n 0, 1) := by decide +kernel
theorem dL_small_981 : decode cL_small 981 = .ok (.invokestatic 117, 3) := by decide +kernel
theorem dL_small_984 : decode cL_small 984 = .ok (.ifCond .eq 7, 3) := by decide +kernel
theorem dL_small_987 : decode cL_small 987 = .ok (.iconst 1, 1) := by decide +kernel
theorem dL_small_988 : decode cL_small 988 = .ok (.goto 4, 3) := by decide +kernel
theorem dL_small_991 : decode cL_small 991 = .ok (.iconst 0, 1) := by decide +kernel
theorem dL_small_992 : decode cL_small 992 = .ok (.ireturn, 1) := by decide +kernel
theorem dL_weights_0 : decode cL_weights 0 = .ok (.new 10, 3) := by decide +kernel
theorem dL_weights_3 : decode cL_weights 3 = .ok (.dup, 1) := by decide +kernel
theorem dL_weights_4 : decode cL_weights 4 = .ok (.invokespecial 110, 3) := by decide +kernel
theorem dL_weights_7 : decode cL_weights 7 = .ok (.astore_n 0, 1) := by decide +kernel
theorem dL_weights_8 : decode cL_weights 8 = .ok (.aload_n 0, 1) := by decide +kernel
theorem dL_weights_9 : decode cL_weights 9 = .ok (.iconst 5, 1) := by decide +kernel
theorem dL_weights_10 : decode cL_weights 10 = .ok (.invokevirtual 27, 3) := by decide +kernel
theorem dL_weights_13 : decode cL_weights 13 = .ok (.iconst 2, 1) := by decide +kernel
theorem dL_weights_14 : decode cL_weights 14 = .ok (.if_icmp .ne 220, 3) := by decide +kernel
theorem dL_weights_17 : decode cL_weights 17 = .ok (.aload_n 0, 1) := by decide +kernel
theorem dL_weights_18 : decode cL_weights 18 = .ok (.iconst 3, 1) := by decide +kernel
theorem dL_weights_19 : decode cL_weights 19 = .ok (.invokevirtual 27, 3) := by decide +kernel
theorem dL_weights_22 : decode cL_weights 22 = .ok (.iconst 3, 1) := by decide +kernel
theorem dL_weights_23 : decode cL_weights 23 = .ok (.if_icmp .ne 211, 3) := by decide +kernel
theorem dL_weights_26 : decode cL_weights 26 = .ok (.aload_n 0, 1) := by decide +kernel
theorem dL_weights_27 : decode cL_weights 27 = .ok (.bipush 8, 2) := by decide +kernel
theorem dL_weights_29 : decode cL_weights 29 = .ok (.invokevirtual 27, 3) := by decide +kernel
theorem dL_weights_32 : decode cL_weights 32 = .ok (.iconst 4, 1) := by decide +kernel
theorem dL_weights_33 : decode cL_weights 33 = .ok (.if_icmp .ne 201, 3) := by decide +kernel
theorem dL_weights_36 : decode cL_weights 36 = .ok (.aload_n 0, 1) := by decide +kernel
theorem dL_weights_37 : decode cL_weights 37 = .ok (.iconst 3, 1) := by decide +kernel
theorem dL_weights_38 : decode cL_weights 38 = .ok (.invokevirtual 61, 3) := by decide +kernel
theorem dL_weights_41 : decode cL_weights 41 = .ok (.bipush 17, 2) := by decide +kernel
theorem dL_weights_43 : decode cL_weights 43 = .ok (.if_icmp .ne 191, 3) := by decide +kernel
theorem dL_weights_46 : decode cL_weights 46 = .ok (.aload_n 0, 1) := by decide +kernel
theorem dL_weights_47 : decode cL_weights 47 = .ok (.iconst 1, 1) := by decide +kernel
theorem dL_weights_48 : decode cL_weights 48 = .ok (.iconst 0, 1) := by decide +kernel
theorem dL_weights_49 : decode cL_weights 49 = .ok (.invokevirtual 67, 3) := by decide +kernel
theorem dL_weights_52 : decode cL_weights 52 = .ok (.sipush 289, 3) := by decide +kernel
theorem dL_weights_55 : decode cL_weights 55 = .ok (.if_icmp .ne 179, 3) := by decide +kernel
theorem dL_weights_58 : decode cL_weights 58 = .ok (.aload_n 0, 1) := by decide +kernel
theorem dL_weights_59 : decode cL_weights 59 = .ok (.iconst 2, 1) := by decide +kernel
theorem dL_weights_60 : decode cL_weights 60 = .ok (.iconst 0, 1) := by decide +kernel
theorem dL_weights_61 : decode cL_weights 61 = .ok (.invokevirtual 67, 3) := by decide +kernel
theorem dL_weights_64 : decode cL_weights 64 = .ok (.sipush 145, 3) := by decide +kernel
theorem dL_weights_67 : decode cL_weights 67 = .ok (.if_icmp .ne 167, 3) := by decide +kernel
theorem dL_weights_70 : decode cL_weights 70 = .ok (.aload_n 0, 1) := by decide +kernel
theorem dL_weights_71 : decode cL_weights 71 = .ok (.iconst 2, 1) := by decide +kernel
theorem dL_weights_72 : decode cL_weights 72 = .ok (.iconst 1, 1) := by decide +kernel
theorem dL_weights_73 : decode cL_weights 73 = .ok (.invokevirtual 67, 3) := by decide +kernel
theorem dL_weights_76 : decode cL_weights 76 = .ok (.sipush 145, 3) := by decide +kernel
theorem dL_weights_79 : decode cL_weights 79 = .ok (.if_icmp .ne 155, 3) := by decide +kernel
theorem dL_weights_82 : decode cL_weights 82 = .ok (.aload_n 0, 1) := by decide +kernel
theorem dL_weights_83 : decode cL_weights 83 = .ok (.iconst 2, 1) := by decide +kernel
theorem dL_weights_84 : decode cL_weights 84 = .ok (.iconst 0, 1) := by decide +kernel
theorem dL_weights_85 : decode cL_weights 85 = .ok (.invokevirtual 70, 3) := by decide +kernel
theorem dL_weights_88 : decode cL_weights 88 = .ok (.iconst 3, 1) := by decide +kernel
theorem dL_weights_89 : decode cL_weights 89 = .ok (.if_icmp .ne 145, 3) := by decide +kernel
theorem dL_weights_92 : decode cL_weights 92 = .ok (.aload_n 0, 1) := by decide +kernel
theorem dL_weights_93 : decode cL_weights 93 = .ok (.iconst 3, 1) := by decide +kernel
theorem dL_weights_94 : decode cL_weights 94 = .ok (.iconst 0, 1) := by decide +kernel
theorem dL_weights_95 : decode cL_weights 95 = .ok (.invokevirtual 67, 3) := by decide +kernel
theorem dL_weights_98 : decode cL_weights 98 = .ok (.bipush 109, 2) := by decide +kernel
theorem dL_weights_100 : decode cL_weights 100 = .ok (.if_icmp .ne 134, 3) := by decide +kernel
theorem dL_weights_103 : decode cL_weights 103 = .ok (.aload_n 0, 1) := by decide +kernel
theorem dL_weights_104 : decode cL_weights 104 = .ok (.iconst 3, 1) := by decide +kernel
theorem dL_weights_105 : decode cL_weights 105 = .ok (.iconst 0, 1) := by decide +kernel
theorem dL_weights_106 : decode cL_weights 106 = .ok (.invokevirtual 70, 3) := by decide +kernel
theorem dL_weights_109 : decode cL_weights 109 = .ok (.iconst 2, 1) := by decide +kernel
theorem dL_weights_110 : decode cL_weights 110 = .ok (.if_icmp .ne 124, 3) := by decide +kernel
theorem dL_weights_113 : decode cL_weights 113 = .ok (.aload_n 0, 1) := by decide +kernel
theorem dL_weights_114 : decode cL_weights 114 = .ok (.iconst 3, 1) := by decide +kernel
theorem dL_weights_115 : decode cL_weights 115 = .ok (.iconst 1, 1) := by decide +kernel
theorem dL_weights_116 : decode cL_weights 116 = .ok (.invokevirtual 70, 3) := by decide +kernel
theorem dL_weights_119 : decode cL_weights 119 = .ok (.iconst 3, 1) := by decide +kernel
theorem dL_weights_120 : decode cL_weights 120 = .ok (.if_icmp .ne 114, 3) := by decide +kernel
theorem dL_weights_123 : decode cL_weights 123 = .ok (.aload_n 0, 1) := by decide +kernel
theorem dL_weights_124 : decode cL_weights 124 = .ok (.iconst 3, 1) := by decide +kernel
theorem dL_weights_125 : decode cL_weights 125 = .ok (.iconst 2, 1) := by decide +kernel
theorem dL_weights_126 : decode cL_weights 126 = .ok (.invokevirtual 70, 3) := by decide +kernel
theorem dL_weights_129 : decode cL_weights 129 = .ok (.iconst (-1), 1) := by decide +kernel
theorem dL_weights_130 : decode cL_weights 130 = .ok (.if_icmp .ne 104, 3) := by decide +kernel
theorem dL_weights_133 : decode cL_weights 133 = .ok (.aload_n 0, 1) := by decide +kernel
theorem dL_weights_134 : decode cL_weights 134 = .ok (.iconst 4, 1) := by decide +kernel
theorem dL_weights_135 : decode cL_weights 135 = .ok (.iconst 1, 1) := by decide +kernel
theorem dL_weights_136 : decode cL_weights 136 = .ok (.invokevirtual 67, 3) := by decide +kernel
theorem dL_weights_139 : decode cL_weights 139 = .ok (.bipush 99, 2) := by decide +kernel
theorem dL_weights_141 : decode cL_weights 141 = .ok (.if_icmp .ne 93, 3) := by decide +kernel
theorem dL_weights_144 : decode cL_weights 144 = .ok (.aload_n 0, 1) := by decide +kernel
theorem dL_weights_145 : decode cL_weights 145 = .ok (.iconst 4, 1) := by decide +kernel
theorem dL_weights_146 : decode cL_weights 146 = .ok (.iconst 0, 1) := by decide +kernel
theorem dL_weights_147 : decode cL_weights 147 = .ok (.invokevirtual 70, 3) := by decide +kernel
theorem dL_weights_150 : decode cL_weights 150 = .ok (.iconst 1, 1) := by decide +kernel
theorem dL_weights_151 : decode cL_weights 151 = .ok (.if_icmp .ne 83, 3) := by decide +kernel
theorem dL_weights_154 : decode cL_weights 154 = .ok (.aload_n 0, 1) := by decide +kernel
theorem dL_weights_155 : decode cL_weights 155 = .ok (.iconst 4, 1) := by decide +kernel
theorem dL_weights_156 : decode cL_weights 156 = .ok (.iconst 2, 1) := by decide +kernel
theorem dL_weights_157 : decode cL_weights 157 = .ok (.invokevirtual 70, 3) := by decide +kernel
theorem dL_weights_160 : decode cL_weights 160 = .ok (.iconst 3, 1) := by decide +kernel
theorem dL_weights_161 : decode cL_weights 161 = .ok (.if_icmp .ne 73, 3) := by decide +kernel
theorem dL_weights_164 : decode cL_weights 164 = .ok (.aload_n 0, 1) := by decide +kernel
theorem dL_weights_165 : decode cL_weights 165 = .ok (.iconst 1, 1) := by decide +kernel
theorem dL_weights_166 : decode cL_weights 166 = .ok (.iconst 0, 1) := by decide +kernel
theorem dL_weights_167 : decode cL_weights 167 = .ok (.invokevirtual 70, 3) := by decide +kernel
theorem dL_weights_170 : decode cL_weights 170 = .ok (.iconst (-1), 1) := by decide +kernel
theorem dL_weights_171 : decode cL_weights 171 = .ok (.if_icmp .ne 63, 3) := by decide +kernel
theorem dL_weights_174 : decode cL_weights 174 = .ok (.aload_n 0, 1) := by decide +kernel
theorem dL_weights_175 : decode cL_weights 175 = .ok (.sipush 289, 3) := by decide +kernel
theorem dL_weights_178 : decode cL_weights 178 = .ok (.invokevirtual 73, 3) := by decide +kernel
theorem dL_weights_181 : decode cL_weights 181 = .ok (.iconst 1, 1) := by decide +kernel
theorem dL_weights_182 : decode cL_weights 182 = .ok (.if_icmp .ne 52, 3) := by decide +kernel
theorem dL_weights_185 : decode cL_weights 185 = .ok (.aload_n 0, 1) := by decide +kernel
theorem dL_weights_186 : decode cL_weights 186 = .ok (.sipush 288, 3) := by decide +kernel
theorem dL_weights_189 : decode cL_weights 189 = .ok (.invokevirtual 73, 3) := by decide +kernel
theorem dL_weights_192 : decode cL_weights 192 = .ok (.iconst 2, 1) := by decide +kernel
theorem dL_weights_193 : decode cL_weights 193 = .ok (.if_icmp .ne 41, 3) := by decide +kernel
theorem dL_weights_196 : decode cL_weights 196 = .ok (.aload_n 0, 1) := by decide +kernel
theorem dL_weights_197 : decode cL_weights 197 = .ok (.sipush 144, 3) := by decide +kernel
theorem dL_weights_200 : decode cL_weights 200 = .ok (.invokevirtual 73, 3) := by decide +kernel
theorem dL_weights_203 : decode cL_weights 203 = .ok (.iconst 3, 1) := by decide +kernel
theorem dL_weights_204 : decode cL_weights 204 = .ok (.if_icmp .ne 30, 3) := by decide +kernel
theorem dL_weights_207 : decode cL_weights 207 = .ok (.aload_n 0, 1) := by decide +kernel
theorem dL_weights_208 : decode cL_weights 208 = .ok (.bipush 99, 2) := by decide +kernel
theorem dL_weights_210 : decode cL_weights 210 = .ok (.invokevirtual 73, 3) := by decide +kernel
theorem dL_weights_213 : decode cL_weights 213 = .ok (.iconst 4, 1) := by decide +kernel
theorem dL_weights_214 : decode cL_weights 214 = .ok (.if_icmp .ne 20, 3) := by decide +kernel
theorem dL_weights_217 : decode cL_weights 217 = .ok (.aload_n 0, 1) := by decide +kernel
theorem dL_weights_218 : decode cL_weights 218 = .ok (.bipush 98, 2) := by decide +kernel
theorem dL_weights_220 : decode cL_weights 220 = .ok (.invokevirtual 73, 3) := by decide +kernel
theorem dL_weights_223 : decode cL_weights 223 = .ok (.iconst (-1), 1) := by decide +kernel
theorem dL_weights_224 : decode cL_weights 224 = .ok (.if_icmp .ne 10, 3) := by decide +kernel
theorem dL_weights_227 : decode cL_weights 227 = .ok (.aload_n 0, 1) := by decide +kernel
theorem dL_weights_228 : decode cL_weights 228 = .ok (.invokestatic 117, 3) := by decide +kernel
theorem dL_weights_231 : decode cL_weights 231 = .ok (.ifCond .ne 5, 3) := by decide +kernel
theorem dL_weights_234 : decode cL_weights 234 = .ok (.iconst 0, 1) := by decide +kernel
theorem dL_weights_235 : decode cL_weights 235 = .ok (.ireturn, 1) := by decide +kernel
theorem dL_weights_236 : decode cL_weights 236 = .ok (.aload_n 0, 1) := by decide +kernel
theorem dL_weights_237 : decode cL_weights 237 = .ok (.invokevirtual 30, 3) := by decide +kernel
theorem dL_weights_240 : decode cL_weights 240 = .ok (.bipush 8, 2) := by decide +kernel
theorem dL_weights_242 : decode cL_weights 242 = .ok (.if_icmp .ne 132, 3) := by decide +kernel
theorem dL_weights_245 : decode cL_weights 245 = .ok (.aload_n 0, 1) := by decide +kernel
theorem dL_weights_246 : decode cL_weights 246 = .ok (.invokevirtual 30, 3) := by decide +kernel
theorem dL_weights_249 : decode cL_weights 249 = .ok (.iconst 3, 1) := by decide +kernel
theorem dL_weights_250 : decode cL_weights 250 = .ok (.if_icmp .ne 124, 3) := by decide +kernel
theorem dL_weights_253 : decode cL_weights 253 = .ok (.aload_n 0, 1) := by decide +kernel
theorem dL_weights_254 : decode cL_weights 254 = .ok (.invokevirtual 30, 3) := by decide +kernel
theorem dL_weights_257 : decode cL_weights 257 = .ok (.iconst 5, 1) := by decide +kernel
theorem dL_weights_258 : decode cL_weights 258 = .ok (.if_icmp .ne 116, 3) := by decide +kernel
theorem dL_weights_261 : decode cL_weights 261 = .ok (.aload_n 0, 1) := by decide +kernel
theorem dL_weights_262 : decode cL_weights 262 = .ok (.iconst 5, 1) := by decide +kernel
theorem dL_weights_263 : decode cL_weights 263 = .ok (.iconst 0, 1) := by decide +kernel
theorem dL_weights_264 : decode cL_weights 264 = .ok (.iconst 0, 1) := by decide +kernel
theorem dL_weights_265 : decode cL_weights 265 = .ok (.iconst 0, 1) := by decide +kernel
theorem dL_weights_266 : decode cL_weights 266 = .ok (.iconst 0, 1) := by decide +kernel
theorem dL_weights_267 : decode cL_weights 267 = .ok (.invokestatic 97, 3) := by decide +kernel
theorem dL_weights_270 : decode cL_weights 270 = .ok (.bipush (-13), 2) := by decide +kernel
theorem dL_weights_272 : decode cL_weights 272 = .ok (.if_icmp .ne 102, 3) := by decide +kernel
theorem dL_weights_275 : decode cL_weights 275 = .ok (.aload_n 0, 1) := by decide +kernel
theorem dL_weights_276 : decode cL_weights 276 = .ok (.iconst 1, 1) := by decide +kernel
theorem dL_weights_277 : decode cL_weights 277 = .ok (.invokevirtual 27, 3) := by decide +kernel
theorem dL_weights_280 : decode cL_weights 280 = .ok (.iconst 2, 1) := by decide +kernel
theorem dL_weights_281 : decode cL_weights 281 = .ok (.if_icmp .ne 93, 3) := by decide +kernel
theorem dL_weights_284 : decode cL_weights 284 = .ok (.aload_n 0, 1) := by decide +kernel
theorem dL_weights_285 : decode cL_weights 285 = .ok (.iconst 1, 1) := by decide +kernel
theorem dL_weights_286 : decode cL_weights 286 = .ok (.invokevirtual 27, 3) := by decide +kernel
theorem dL_weights_289 : decode cL_weights 289 = .ok (.iconst 3, 1) := by decide +kernel
theorem dL_weights_290 : decode cL_weights 290 = .ok (.if_icmp .ne 84, 3) := by decide +kernel
theorem dL_weights_293 : decode cL_weights 293 = .ok (.aload_n 0, 1) := by decide +kernel
theorem dL_weights_294 : decode cL_weights 294 = .ok (.iconst 2, 1) := by decide +kernel
theorem dL_weights_295 : decode cL_weights 295 = .ok (.iconst 0, 1) := by decide +kernel
theorem dL_weights_296 : decode cL_weights 296 = .ok (.invokevirtual 67, 3) := by decide +kernel
theorem dL_weights_299 : decode cL_weights 299 = .ok (.iconst 5, 1) := by decide +kernel
theorem dL_weights_300 : decode cL_weights 300 = .ok (.if_icmp .ne 74, 3) := by decide +kernel
theorem dL_weights_303 : decode cL_weights 303 = .ok (.aload_n 0, 1) := by decide +kernel
theorem dL_weights_304 : decode cL_weights 304 = .ok (.iconst 2, 1) := by decide +kernel
theorem dL_weights_305 : decode cL_weights 305 = .ok (.iconst 0, 1) := by decide +kernel
theorem dL_weights_306 : decode cL_weights 306 = .ok (.invokevirtual 70, 3) := by decide +kernel
theorem dL_weights_309 : decode cL_weights 309 = .ok (.iconst 1, 1) := by decide +kernel
theorem dL_weights_310 : decode cL_weights 310 = .ok (.if_icmp .ne 64, 3) := by decide +kernel
theorem dL_weights_313 : decode cL_weights 313 = .ok (.aload_n 0, 1) := by decide +kernel
theorem dL_weights_314 : decode cL_weights 314 = .ok (.iconst 1, 1) := by decide +kernel
theorem dL_weights_315 : decode cL_weights 315 = .ok (.invokevirtual 27, 3) := by decide +kernel
theorem dL_weights_318 : decode cL_weights 318 = .ok (.iconst 4, 1) := by decide +kernel
theorem dL_weights_319 : decode cL_weights 319 = .ok (.if_icmp .ne 55, 3) := by decide +kernel
theorem dL_weights_322 : decode cL_weights 322 = .ok (.aload_n 0, 1) := by decide +kernel
theorem dL_weights_323 : decode cL_weights 323 = .ok (.iconst 3, 1) := by decide +kernel
theorem dL_weights_324 : decode cL_weights 324 = .ok (.iconst 0, 1) := by decide +kernel
theorem dL_weights_325 : decode cL_weights 325 = .ok (.invokevirtual 67, 3) := by decide +kernel
theorem dL_weights_328 : decode cL_weights 328 = .ok (.bipush 6, 2) := by decide +kernel
theorem dL_weights_330 : decode cL_weights 330 = .ok (.if_icmp .ne 44, 3) := by decide +kernel
theorem dL_weights_333 : decode cL_weights 333 = .ok (.aload_n 0, 1) := by decide +kernel
theorem dL_weights_334 : decode cL_weights 334 = .ok (.iconst 3, 1) := by decide +kernel
theorem dL_weights_335 : decode cL_weights 335 = .ok (.iconst 0, 1) := by decide +kernel
theorem dL_weights_336 : decode cL_weights 336 = .ok (.invokevirtual 70, 3) := by decide +kernel
theorem dL_weights_339 : decode cL_weights 339 = .ok (.iconst 1, 1) := by decide +kernel
theorem dL_weights_340 : decode cL_weights 340 = .ok (.if_icmp .ne 34, 3) := by decide +kernel
theorem dL_weights_343 : decode cL_weights 343 = .ok (.aload_n 0, 1) := by decide +kernel
theorem dL_weights_344 : decode cL_weights 344 = .ok (.iconst 3, 1) := by decide +kernel
theorem dL_weights_345 : decode cL_weights 345 = .ok (.iconst 1, 1) := by decide +kernel
theorem dL_weights_346 : decode cL_weights 346 = .ok (.invokevirtual 70, 3) := by decide +kernel
theorem dL_weights_349 : decode cL_weights 349 = .ok (.iconst 2, 1) := by decide +kernel
theorem dL_weights_350 : decode cL_weights 350 = .ok (.if_icmp .ne 24, 3) := by decide +kernel
theorem dL_weights_353 : decode cL_weights 353 = .ok (.aload_n 0, 1) := by decide +kernel
theorem dL_weights_354 : decode cL_weights 354 = .ok (.iconst 2, 1) := by decide +kernel
theorem dL_weights_355 : decode cL_weights 355 = .ok (.iconst 0, 1) := by decide +kernel
theorem dL_weights_356 : decode cL_weights 356 = .ok (.invokevirtual 67, 3) := by decide +kernel
theorem dL_weights_359 : decode cL_weights 359 = .ok (.bipush 8, 2) := by decide +kernel
theorem dL_weights_361 : decode cL_weights 361 = .ok (.if_icmp .ne 13, 3) := by decide +kernel
theorem dL_weights_364 : decode cL_weights 364 = .ok (.aload_n 0, 1) := by decide +kernel
theorem dL_weights_365 : decode cL_weights 365 = .ok (.iconst 2, 1) := by decide +kernel
theorem dL_weights_366 : decode cL_weights 366 = .ok (.iconst 0, 1) := by decide +kernel
theorem dL_weights_367 : decode cL_weights 367 = .ok (.invokevirtual 70, 3) := by decide +kernel
theorem dL_weights_370 : decode cL_weights 370 = .ok (.iconst 2, 1) := by decide +kernel
theorem dL_weights_371 : decode cL_weights 371 = .ok (.if_icmp .eq 5, 3) := by decide +kernel
theorem dL_weights_374 : decode cL_weights 374 = .ok (.iconst 0, 1) := by decide +kernel
theorem dL_weights_375 : decode cL_weights 375 = .ok (.ireturn, 1) := by decide +kernel
theorem dL_weights_376 : decode cL_weights 376 = .ok (.iconst 4, 1) := by decide +kernel
theorem dL_weights_377 : decode cL_weights 377 = .ok (.istore_n 1, 1) := by decide +kernel
theorem dL_weights_378 : decode cL_weights 378 = .ok (.iload_n 1, 1) := by decide +kernel
theorem dL_weights_379 : decode cL_weights 379 = .ok (.bipush 10, 2) := by decide +kernel
theorem dL_weights_381 : decode cL_weights 381 = .ok (.if_icmp .ge 23, 3) := by decide +kernel
theorem dL_weights_384 : decode cL_weights 384 = .ok (.aload_n 0, 1) := by decide +kernel
theorem dL_weights_385 : decode cL_weights 385 = .ok (.bipush 99, 2) := by decide +kernel
theorem dL_weights_387 : decode cL_weights 387 = .ok (.invokevirtual 27, 3) := by decide +kernel
theorem dL_weights_390 : decode cL_weights 390 = .ok (.iload_n 1, 1) := by decide +kernel
theorem dL_weights_391 : decode cL_weights 391 = .ok (.iconst 1, 1) := by decide +kernel
theorem dL_weights_392 : decode cL_weights 392 = .ok (.iadd, 1) := by decide +kernel
theorem dL_weights_393 : decode cL_weights 393 = .ok (.if_icmp .eq 5, 3) := by decide +kernel
theorem dL_weights_396 : decode cL_weights 396 = .ok (.iconst 0, 1) := by decide +kernel
theorem dL_weights_397 : decode cL_weights 397 = .ok (.ireturn, 1) := by decide +kernel
theorem dL_weights_398 : decode cL_weights 398 = .ok (.iinc 1 1, 3) := by decide +kernel
theorem dL_weights_401 : decode cL_weights 401 = .ok (.goto (-23), 3) := by decide +kernel
theorem dL_weights_404 : decode cL_weights 404 = .ok (.aload_n 0, 1) := by decide +kernel
theorem dL_weights_405 : decode cL_weights 405 = .ok (.iconst 4, 1) := by decide +kernel
theorem dL_weights_406 : decode cL_weights 406 = .ok (.iconst 1, 1) := by decide +kernel
theorem dL_weights_407 : decode cL_weights 407 = .ok (.iconst 0, 1) := by decide +kernel
theorem dL_weights_408 : decode cL_weights 408 = .ok (.iconst 0, 1) := by decide +kernel
theorem dL_weights_409 : decode cL_weights 409 = .ok (.iconst 0, 1) := by decide +kernel
theorem dL_weights_410 : decode cL_weights 410 = .ok (.invokestatic 97, 3) := by decide +kernel
theorem dL_weights_413 : decode cL_weights 413 = .ok (.bipush (-13), 2) := by decide +kernel
theorem dL_weights_415 : decode cL_weights 415 = .ok (.if_icmp .ne 96, 3) := by decide +kernel
theorem dL_weights_418 : decode cL_weights 418 = .ok (.aload_n 0, 1) := by decide +kernel
theorem dL_weights_419 : decode cL_weights 419 = .ok (.bipush 10, 2) := by decide +kernel
theorem dL_weights_421 : decode cL_weights 421 = .ok (.iconst 0, 1) := by decide +kernel
theorem dL_weights_422 : decode cL_weights 422 = .ok (.invokevirtual 67, 3) := by decide +kernel
theorem dL_weights_425 : decode cL_weights 425 = .ok (.ldc 126, 2) := by decide +kernel
theorem dL_weights_427 : decode cL_weights 427 = .ok (.if_icmp .ne 84, 3) := by decide +kernel
theorem dL_weights_430 : decode cL_weights 430 = .ok (.aload_n 0, 1) := by decide +kernel
theorem dL_weights_431 : decode cL_weights 431 = .ok (.iconst 1, 1) := by decide +kernel
theorem dL_weights_432 : decode cL_weights 432 = .ok (.iconst 0, 1) := by decide +kernel
theorem dL_weights_433 : decode cL_weights 433 = .ok (.invokevirtual 67, 3) := by decide +kernel
theorem dL_weights_436 : decode cL_weights 436 = .ok (.ldc 127, 2) := by decide +kernel
theorem dL_weights_438 : decode cL_weights 438 = .ok (.if_icmp .ne 73, 3) := by decide +kernel
theorem dL_weights_441 : decode cL_weights 441 = .ok (.aload_n 0, 1) := by decide +kernel
theorem dL_weights_442 : decode cL_weights 442 = .ok (.iconst 3, 1) := by decide +kernel
theorem dL_weights_443 : decode cL_weights 443 = .ok (.invokevirtual 61, 3) := by decide +kernel
theorem dL_weights_446 : decode cL_weights 446 = .ok (.sipush 598, 3) := by decide +kernel
theorem dL_weights_449 : decode cL_weights 449 = .ok (.if_icmp .ne 62, 3) := by decide +kernel
theorem dL_weights_452 : decode cL_weights 452 = .ok (.aload_n 0, 1) := by decide +kernel
theorem dL_weights_453 : decode cL_weights 453 = .ok (.ldc 101, 2) := by decide +kernel
theorem dL_weights_455 : decode cL_weights 455 = .ok (.invokevirtual 73, 3) := by decide +kernel
theorem dL_weights_458 : decode cL_weights 458 = .ok (.iconst 1, 1) := by decide +kernel
theorem dL_weights_459 : decode cL_weights 459 = .ok (.if_icmp .ne 52, 3) := by decide +kernel
theorem dL_weights_462 : decode cL_weights 462 = .ok (.aload_n 0, 1) := by decide +kernel
theorem dL_weights_463 : decode cL_weights 463 = .ok (.iconst 1, 1) := by decide +kernel
theorem dL_weights_464 : decode cL_weights 464 = .ok (.invokevirtual 73, 3) := by decide +kernel
theorem dL_weights_467 : decode cL_weights 467 = .ok (.iconst (-1), 1) := by decide +kernel
theorem dL_weights_468 : decode cL_weights 468 = .ok (.if_icmp .ne 43, 3) := by decide +kernel
theorem dL_weights_471 : decode cL_weights 471 = .ok (.aload_n 0, 1) := by decide +kernel
theorem dL_weights_472 : decode cL_weights 472 = .ok (.bipush 10, 2) := by decide +kernel
theorem dL_weights_474 : decode cL_weights 474 = .ok (.bipush 8, 2) := by decide +kernel
theorem dL_weights_476 : decode cL_weights 476 = .ok (.invokevirtual 70, 3) := by decide +kernel
theorem dL_weights_479 : decode cL_weights 479 = .ok (.bipush 9, 2) := by decide +kernel
theorem dL_weights_481 : decode cL_weights 481 = .ok (.if_icmp .ne 30, 3) := by decide +kernel
theorem dL_weights_484 : decode cL_weights 484 = .ok (.aload_n 0, 1) := by decide +kernel
theorem dL_weights_485 : decode cL_weights 485 = .ok (.bipush 7, 2) := by decide +kernel
theorem dL_weights_487 : decode cL_weights 487 = .ok (.iconst 0, 1) := by decide +kernel
theorem dL_weights_488 : decode cL_weights 488 = .ok (.invokevirtual 70, 3) := by decide +kernel
theorem dL_weights_491 : decode cL_weights 491 = .ok (.iconst 4, 1) := by decide +kernel
theorem dL_weights_492 : decode cL_weights 492 = .ok (.if_icmp .ne 19, 3) := by decide +kernel
theorem dL_weights_495 : decode cL_weights 495 = .ok (.aload_n 0, 1) := by decide +kernel
theorem dL_weights_496 : decode cL_weights 496 = .ok (.bipush 7, 2) := by decide +kernel
theorem dL_weights_498 : decode cL_weights 498 = .ok (.iconst 0, 1) := by decide +kernel
theorem dL_weights_499 : decode cL_weights 499 = .ok (.invokevirtual 67, 3) := by decide +kernel
theorem dL_weights_502 : decode cL_weights 502 = .ok (.ldc 128, 2) := by decide +kernel
theorem dL_weights_504 : decode cL_weights 504 = .ok (.if_icmp .ne 7, 3) := by decide +kernel
theorem dL_weights_507 : decode cL_weights 507 = .ok (.iconst 1, 1) := by decide +kernel
theorem dL_weights_508 : decode cL_weights 508 = .ok (.goto 4, 3) := by decide +kernel
theorem dL_weights_511 : decode cL_weights 511 = .ok (.iconst 0, 1) := by decide +kernel
theorem dL_weights_512 : decode cL_weights 512 = .ok (.ireturn, 1) := by decide +kernel
theorem dL_types_0 : decode cL_types 0 = .ok (.iconst 1, 1) := by decide +kernel
theorem dL_types_1 : decode cL_types 1 = .ok (.istore_n 3, 1) := by decide +kernel
theorem dL_types_2 : decode cL_types 2 = .ok (.bipush 56, 2) := by decide +kernel
theorem dL_types_4 : decode cL_types 4 = .ok (.istore 4, 2) := by decide +kernel
theorem dL_types_6 : decode cL_types 6 = .ok (.iload 4, 2) := by decide +kernel
theorem dL_types_8 : decode cL_types 8 = .ok (.ifCond .lt 44, 3) := by decide +kernel
theorem dL_types_11 : decode cL_types 11 = .ok (.lload_n 1, 1) := by decide +kernel
theorem dL_types_12 : decode cL_types 12 = .ok (.iload 4, 2) := by decide +kernel
theorem dL_types_14 : decode cL_types 14 = .ok (.lshr, 1) := by decide +kernel
theorem dL_types_15 : decode cL_types 15 = .ok (.ldc2_w 129, 3) := by decide +kernel
theorem dL_types_18 : decode cL_types 18 = .ok (.land, 1) := by decide +kernel
theorem dL_types_19 : decode cL_types 19 = .ok (.l2i, 1) := by decide +kernel
theorem dL_types_20 : decode cL_types 20 = .ok (.istore 5, 2) := by decide +kernel
theorem dL_types_22 : decode cL_types 22 = .ok (.iload_n 3, 1) := by decide +kernel
theorem dL_types_23 : decode cL_types 23 = .ok (.ifCond .eq 21, 3) := by decide +kernel
theorem dL_types_26 : decode cL_types 26 = .ok (.iload 5, 2) := by decide +kernel
theorem dL_types_28 : decode cL_types 28 = .ok (.ifCond .eq 12, 3) := by decide +kernel
theorem dL_types_31 : decode cL_types 31 = .ok (.aload_n 0, 1) := by decide +kernel
theorem dL_types_32 : decode cL_types 32 = .ok (.iload 5, 2) := by decide +kernel
theorem dL_types_34 : decode cL_types 34 = .ok (.invokevirtual 34, 3) := by decide +kernel
theorem dL_types_37 : decode cL_types 37 = .ok (.ifCond .le 7, 3) := by decide +kernel
theorem dL_types_40 : decode cL_types 40 = .ok (.iconst 1, 1) := by decide +kernel
theorem dL_types_41 : decode cL_types 41 = .ok (.goto 4, 3) := by decide +kernel
theorem dL_types_44 : decode cL_types 44 = .ok (.iconst 0, 1) := by decide +kernel
theorem dL_types_45 : decode cL_types 45 = .ok (.istore_n 3, 1) := by decide +kernel
theorem dL_types_46 : decode cL_types 46 = .ok (.iinc 4 (-8), 3) := by decide +kernel
theorem dL_types_49 : decode cL_types 49 = .ok (.goto (-43), 3) := by decide +kernel
theorem dL_types_52 : decode cL_types 52 = .ok (.iload_n 3, 1) := by decide +kernel
theorem dL_types_53 : decode cL_types 53 = .ok (.ireturn, 1) := by decide +kernel
theorem dL_isError_0 : decode cL_isError 0 = .ok (.aload_n 0, 1) := by decide +kernel
theorem dL_isError_1 : decode cL_isError 1 = .ok (.invokevirtual 131, 3) := by decide +kernel
theorem dL_isError_4 : decode cL_isError 4 = .ok (.ifCond .lt 32, 3) := by decide +kernel
theorem dL_isError_7 : decode cL_isError 7 = .ok (.aload_n 0, 1) := by decide +kernel
theorem dL_isError_8 : decode cL_isError 8 = .ok (.lload_n 1, 1) := by decide +kernel
theorem dL_isError_9 : decode cL_isError 9 = .ok (.invokestatic 134, 3) := by decide +kernel
theorem dL_isError_12 : decode cL_isError 12 = .ok (.ifCond .eq 24, 3) := by decide +kernel
theorem dL_isError_15 : decode cL_isError 15 = .ok (.aload_n 0, 1) := by decide +kernel
theorem dL_isError_16 : decode cL_isError 16 = .ok (.lload_n 3, 1) := by decide +kernel
theorem dL_isError_17 : decode cL_isError 17 = .ok (.invokestatic 134, 3) := by decide +kernel
theorem dL_isError_20 : decode cL_isError 20 = .ok (.ifCond .eq 16, 3) := by decide +kernel
theorem dL_isError_23 : decode cL_isError 23 = .ok (.aload_n 0, 1) := by decide +kernel
theorem dL_isError_24 : decode cL_isError 24 = .ok (.invokevirtual 138, 3) := by decide +kernel
theorem dL_isError_27 : decode cL_isError 27 = .ok (.iload 5, 2) := by decide +kernel
theorem dL_isError_29 : decode cL_isError 29 = .ok (.if_icmp .ne 7, 3) := by decide +kernel
theorem dL_isError_32 : decode cL_isError 32 = .ok (.iconst 1, 1) := by decide +kernel
theorem dL_isError_33 : decode cL_isError 33 = .ok (.goto 4, 3) := by decide +kernel
theorem dL_isError_36 : decode cL_isError 36 = .ok (.iconst 0, 1) := by decide +kernel
theorem dL_isError_37 : decode cL_isError 37 = .ok (.ireturn, 1) := by decide +kernel
theorem dL_texts_0 : decode cL_texts 0 = .ok (.new 10, 3) := by decide +kernel
theorem dL_texts_3 : decode cL_texts 3 = .ok (.dup, 1) := by decide +kernel
theorem dL_texts_4 : decode cL_texts 4 = .ok (.invokespecial 110, 3) := by decide +kernel
theorem dL_texts_7 : decode cL_texts 7 = .ok (.astore_n 0, 1) := by decide +kernel
theorem dL_texts_8 : decode cL_texts 8 = .ok (.aload_n 0, 1) := by decide +kernel
theorem dL_texts_9 : decode cL_texts 9 = .ok (.ldc2_w 141, 3) := by decide +kernel
theorem dL_texts_12 : decode cL_texts 12 = .ok (.lconst 0, 1) := by decide +kernel
theorem dL_texts_13 : decode cL_texts 13 = .ok (.iconst 5, 1) := by decide +kernel
theorem dL_texts_14 : decode cL_texts 14 = .ok (.invokestatic 143, 3) := by decide +kernel
theorem dL_texts_17 : decode cL_texts 17 = .ok (.ifCond .eq 113, 3) := by decide +kernel
theorem dL_texts_20 : decode cL_texts 20 = .ok (.aload_n 0, 1) := by decide +kernel
theorem dL_texts_21 : decode cL_texts 21 = .ok (.ldc2_w 147, 3) := by decide +kernel
theorem dL_texts_24 : decode cL_texts 24 = .ok (.lconst 0, 1) := by decide +kernel
theorem dL_texts_25 : decode cL_texts 25 = .ok (.iconst 5, 1) := by decide +kernel
theorem dL_texts_26 : decode cL_texts 26 = .ok (.invokestatic 143, 3) := by decide +kernel
theorem dL_texts_29 : decode cL_texts 29 = .ok (.ifCond .eq 101, 3) := by decide +kernel
theorem dL_texts_32 : decode cL_texts 32 = .ok (.aload_n 0, 1) := by decide +kernel
theorem dL_texts_33 : decode cL_texts 33 = .ok (.ldc2_w 149, 3) := by decide +kernel
theorem dL_texts_36 : decode cL_texts 36 = .ok (.lconst 0, 1) := by decide +kernel
theorem dL_texts_37 : decode cL_texts 37 = .ok (.bipush 7, 2) := by decide +kernel
theorem dL_texts_39 : decode cL_texts 39 = .ok (.invokestatic 143, 3) := by decide +kernel
theorem dL_texts_42 : decode cL_texts 42 = .ok (.ifCond .eq 88, 3) := by decide +kernel
theorem dL_texts_45 : decode cL_texts 45 = .ok (.aload_n 0, 1) := by decide +kernel
theorem dL_texts_46 : decode cL_texts 46 = .ok (.ldc2_w 151, 3) := by decide +kernel
theorem dL_texts_49 : decode cL_texts 49 = .ok (.lconst 0, 1) := by decide +kernel
theorem dL_texts_50 : decode cL_texts 50 = .ok (.iconst 3, 1) := by decide +kernel
theorem dL_texts_51 : decode cL_texts 51 = .ok (.invokestatic 143, 3) := by decide +kernel
theorem dL_texts_54 : decode cL_texts 54 = .ok (.ifCond .eq 76, 3) := by decide +kernel
theorem dL_texts_57 : decode cL_texts 57 = .ok (.aload_n 0, 1) := by decide +kernel
theorem dL_texts_58 : decode cL_texts 58 = .ok (.ldc2_w 153, 3) := by decide +kernel
theorem dL_texts_61 : decode cL_texts 61 = .ok (.lconst 0, 1) := by decide +kernel
theorem dL_texts_62 : decode cL_texts 62 = .ok (.iconst 1, 1) := by decide +kernel
theorem dL_texts_63 : decode cL_texts 63 = .ok (.invokestatic 143, 3) := by decide +kernel
theorem dL_texts_66 : decode cL_texts 66 = .ok (.ifCond .eq 64, 3) := by decide +kernel
theorem dL_texts_69 : decode cL_texts 69 = .ok (.aload_n 0, 1) := by decide +kernel
theorem dL_texts_70 : decode cL_texts 70 = .ok (.ldc2_w 155, 3) := by decide +kernel
theorem dL_texts_73 : decode cL_texts 73 = .ok (.lconst 0, 1) := by decide +kernel
theorem dL_texts_74 : decode cL_texts 74 = .ok (.iconst 4, 1) := by decide +kernel
theorem dL_texts_75 : decode cL_texts 75 = .ok (.invokestatic 143, 3) := by decide +kernel
theorem dL_texts_78 : decode cL_texts 78 = .ok (.ifCond .eq 52, 3) := by decide +kernel
theorem dL_texts_81 : decode cL_texts 81 = .ok (.aload_n 0, 1) := by decide +kernel
theorem dL_texts_82 : decode cL_texts 82 = .ok (.lconst 0, 1) := by decide +kernel
theorem dL_texts_83 : decode cL_texts 83 = .ok (.lconst 0, 1) := by decide +kernel
theorem dL_texts_84 : decode cL_texts 84 = .ok (.iconst 0, 1) := by decide +kernel
theorem dL_texts_85 : decode cL_texts 85 = .ok (.invokestatic 143, 3) := by decide +kernel
theorem dL_texts_88 : decode cL_texts 88 = .ok (.ifCond .eq 42, 3) := by decide +kernel
theorem dL_texts_91 : decode cL_texts 91 = .ok (.aload_n 0, 1) := by decide +kernel
theorem dL_texts_92 : decode cL_texts 92 = .ok (.ldc2_w 157, 3) := by decide +kernel
theorem dL_texts_95 : decode cL_texts 95 = .ok (.lconst 0, 1) := by decide +kernel
theorem dL_texts_96 : decode cL_texts 96 = .ok (.iconst 2, 1) := by decide +kernel
theorem dL_texts_97 : decode cL_texts 97 = .ok (.invokestatic 143, 3) := by decide +kernel
theorem dL_texts_100 : decode cL_texts 100 = .ok (.ifCond .eq 30, 3) := by decide +kernel
theorem dL_texts_103 : decode cL_texts 103 = .ok (.aload_n 0, 1) := by decide +kernel
theorem dL_texts_104 : decode cL_texts 104 = .ok (.ldc2_w 159, 3) := by decide +kernel
theorem dL_texts_107 : decode cL_texts 107 = .ok (.lconst 0, 1) := by decide +kernel
theorem dL_texts_108 : decode cL_texts 108 = .ok (.iconst 0, 1) := by decide +kernel
theorem dL_texts_109 : decode cL_texts 109 = .ok (.invokestatic 143, 3) := by decide +kernel
theorem dL_texts_112 : decode cL_texts 112 = .ok (.ifCond .eq 18, 3) := by decide +kernel
theorem dL_texts_115 : decode cL_texts 115 = .ok (.aload_n 0, 1) := by decide +kernel
theorem dL_texts_116 : decode cL_texts 116 = .ok (.ldc2_w 161, 3) := by decide +kernel
theorem dL_texts_119 : decode cL_texts 119 = .ok (.ldc2_w 163, 3) := by decide +kernel
theorem dL_texts_122 : decode cL_texts 122 = .ok (.bipush 9, 2) := by decide +kernel
theorem dL_texts_124 : decode cL_texts 124 = .ok (.invokestatic 143, 3) := by decide +kernel
theorem dL_texts_127 : decode cL_texts 127 = .ok (.ifCond .ne 5, 3) := by decide +kernel
theorem dL_texts_130 : decode cL_texts 130 = .ok (.iconst 0, 1) := by decide +kernel
theorem dL_texts_131 : decode cL_texts 131 = .ok (.ireturn, 1) := by decide +kernel
theorem dL_texts_132 : decode cL_texts 132 = .ok (.aload_n 0, 1) := by decide +kernel
theorem dL_texts_133 : decode cL_texts 133 = .ok (.ldc2_w 165, 3) := by decide +kernel
theorem dL_texts_136 : decode cL_texts 136 = .ok (.lconst 0, 1) := by decide +kernel
theorem dL_texts_137 : decode cL_texts 137 = .ok (.iconst 2, 1) := by decide +kernel
theorem dL_texts_138 : decode cL_texts 138 = .ok (.invokestatic 143, 3) := by decide +kernel
theorem dL_texts_141 : decode cL_texts 141 = .ok (.ifCond .eq 109, 3) := by decide +kernel
theorem dL_texts_144 : decode cL_texts 144 = .ok (.aload_n 0, 1) := by decide +kernel
theorem dL_texts_145 : decode cL_texts 145 = .ok (.ldc2_w 167, 3) := by decide +kernel
theorem dL_texts_148 : decode cL_texts 148 = .ok (.lconst 0, 1) := by decide +kernel
theorem dL_texts_149 : decode cL_texts 149 = .ok (.iconst 2, 1) := by decide +kernel
theorem dL_texts_150 : decode cL_texts 150 = .ok (.invokestatic 143, 3) := by decide +kernel
theorem dL_texts_153 : decode cL_texts 153 = .ok (.ifCond .eq 97, 3) := by decide +kernel
theorem dL_texts_156 : decode cL_texts 156 = .ok (.aload_n 0, 1) := by decide +kernel
theorem dL_texts_157 : decode cL_texts 157 = .ok (.ldc2_w 169, 3) := by decide +kernel
theorem dL_texts_160 : decode cL_texts 160 = .ok (.lconst 0, 1) := by decide +kernel
theorem dL_texts_161 : decode cL_texts 161 = .ok (.bipush 6, 2) := by decide +kernel
theorem dL_texts_163 : decode cL_texts 163 = .ok (.invokestatic 143, 3) := by decide +kernel
theorem dL_texts_166 : decode cL_texts 166 = .ok (.ifCond .eq 84, 3) := by decide +kernel
theorem dL_texts_169 : decode cL_texts 169 = .ok (.aload_n 0, 1) := by decide +kernel
theorem dL_texts_170 : decode cL_texts 170 = .ok (.ldc2_w 171, 3) := by decide +kernel
theorem dL_texts_173 : decode cL_texts 173 = .ok (.ldc2_w 173, 3) := by decide +kernel
theorem dL_texts_176 : decode cL_texts 176 = .ok (.bipush 9, 2) := by decide +kernel
theorem dL_texts_178 : decode cL_texts 178 = .ok (.invokestatic 143, 3) := by decide +kernel
theorem dL_texts_181 : decode cL_texts 181 = .ok (.ifCond .eq 69, 3) := by decide +kernel
theorem dL_texts_184 : decode cL_texts 184 = .ok (.aload_n 0, 1) := by decide +kernel
theorem dL_texts_185 : decode cL_texts 185 = .ok (.ldc2_w 175, 3) := by decide +kernel
theorem dL_texts_188 : decode cL_texts 188 = .ok (.lconst 0, 1) := by decide +kernel
theorem dL_texts_189 : decode cL_texts 189 = .ok (.iconst 0, 1) := by decide +kernel
theorem dL_texts_190 : decode cL_texts 190 = .ok (.invokestatic 143, 3) := by decide +kernel
theorem dL_texts_193 : decode cL_texts 193 = .ok (.ifCond .eq 57, 3) := by decide +kernel
theorem dL_texts_196 : decode cL_texts 196 = .ok (.aload_n 0, 1) := by decide +kernel
theorem dL_texts_197 : decode cL_texts 197 = .ok (.ldc2_w 177, 3) := by decide +kernel
theorem dL_texts_200 : decode cL_texts 200 = .ok (.lconst 0, 1) := by decide +kernel
theorem dL_texts_201 : decode cL_texts 201 = .ok (.iconst 1, 1) := by decide +kernel
theorem dL_texts_202 : decode cL_texts 202 = .ok (.invokestatic 143, 3) := by decide +kernel
theorem dL_texts_205 : decode cL_texts 205 = .ok (.ifCond .eq 45, 3) := by decide +kernel
theorem dL_texts_208 : decode cL_texts 208 = .ok (.aload_n 0, 1) := by decide +kernel
theorem dL_texts_209 : decode cL_texts 209 = .ok (.ldc2_w 179, 3) := by decide +kernel
theorem dL_texts_212 : decode cL_texts 212 = .ok (.lconst 0, 1) := by decide +kernel
theorem dL_texts_213 : decode cL_texts 213 = .ok (.iconst 5, 1) := by decide +kernel
theorem dL_texts_214 : decode cL_texts 214 = .ok (.invokestatic 143, 3) := by decide +kernel
theorem dL_texts_217 : decode cL_texts 217 = .ok (.ifCond .eq 33, 3) := by decide +kernel
theorem dL_texts_220 : decode cL_texts 220 = .ok (.aload_n 0, 1) := by decide +kernel
theorem dL_texts_221 : decode cL_texts 221 = .ok (.ldc2_w 181, 3) := by decide +kernel
theorem dL_texts_224 : decode cL_texts 224 = .ok (.ldc2_w 183, 3) := by decide +kernel
theorem dL_texts_227 : decode cL_texts 227 = .ok (.bipush 10, 2) := by decide +kernel
theorem dL_texts_229 : decode cL_texts 229 = .ok (.invokestatic 143, 3) := by decide +kernel
theorem dL_texts_232 : decode cL_texts 232 = .ok (.ifCond .eq 18, 3) := by decide +kernel
theorem dL_texts_235 : decode cL_texts 235 = .ok (.aload_n 0, 1) := by decide +kernel
theorem dL_texts_236 : decode cL_texts 236 = .ok (.ldc2_w 185, 3) := by decide +kernel
theorem dL_texts_239 : decode cL_texts 239 = .ok (.ldc2_w 187, 3) := by decide +kernel
theorem dL_texts_242 : decode cL_texts 242 = .ok (.bipush 15, 2) := by decide +kernel
theorem dL_texts_244 : decode cL_texts 244 = .ok (.invokestatic 143, 3) := by decide +kernel
theorem dL_texts_247 : decode cL_texts 247 = .ok (.ifCond .ne 5, 3) := by decide +kernel
theorem dL_texts_250 : decode cL_texts 250 = .ok (.iconst 0, 1) := by decide +kernel
theorem dL_texts_251 : decode cL_texts 251 = .ok (.ireturn, 1) := by decide +kernel
theorem dL_texts_252 : decode cL_texts 252 = .ok (.aload_n 0, 1) := by decide +kernel
theorem dL_texts_253 : decode cL_texts 253 = .ok (.ldc2_w 185, 3) := by decide +kernel
theorem dL_texts_256 : decode cL_texts 256 = .ok (.ldc2_w 185, 3) := by decide +kernel
theorem dL_texts_259 : decode cL_texts 259 = .ok (.bipush 16, 2) := by decide +kernel
theorem dL_texts_261 : decode cL_texts 261 = .ok (.invokestatic 143, 3) := by decide +kernel
theorem dL_texts_264 : decode cL_texts 264 = .ok (.ifCond .eq 108, 3) := by decide +kernel
theorem dL_texts_267 : decode cL_texts 267 = .ok (.aload_n 0, 1) := by decide +kernel
theorem dL_texts_268 : decode cL_texts 268 = .ok (.ldc2_w 189, 3) := by decide +kernel
theorem dL_texts_271 : decode cL_texts 271 = .ok (.invokestatic 134, 3) := by decide +kernel
theorem dL_texts_274 : decode cL_texts 274 = .ok (.ifCond .eq 98, 3) := by decide +kernel
theorem dL_texts_277 : decode cL_texts 277 = .ok (.aload_n 0, 1) := by decide +kernel
theorem dL_texts_278 : decode cL_texts 278 = .ok (.invokevirtual 138, 3) := by decide +kernel
theorem dL_texts_281 : decode cL_texts 281 = .ok (.bipush 19, 2) := by decide +kernel
theorem dL_texts_283 : decode cL_texts 283 = .ok (.if_icmp .ne 89, 3) := by decide +kernel
theorem dL_texts_286 : decode cL_texts 286 = .ok (.aload_n 0, 1) := by decide +kernel
theorem dL_texts_287 : decode cL_texts 287 = .ok (.invokevirtual 131, 3) := by decide +kernel
theorem dL_texts_290 : decode cL_texts 290 = .ok (.bipush 21, 2) := by decide +kernel
theorem dL_texts_292 : decode cL_texts 292 = .ok (.if_icmp .ne 80, 3) := by decide +kernel
theorem dL_texts_295 : decode cL_texts 295 = .ok (.aload_n 0, 1) := by decide +kernel
theorem dL_texts_296 : decode cL_texts 296 = .ok (.ldc2_w 191, 3) := by decide +kernel
theorem dL_texts_299 : decode cL_texts 299 = .ok (.ldc2_w 191, 3) := by decide +kernel
theorem dL_texts_302 : decode cL_texts 302 = .ok (.bipush 16, 2) := by decide +kernel
theorem dL_texts_304 : decode cL_texts 304 = .ok (.invokestatic 143, 3) := by decide +kernel
theorem dL_texts_307 : decode cL_texts 307 = .ok (.ifCond .eq 65, 3) := by decide +kernel
theorem dL_texts_310 : decode cL_texts 310 = .ok (.aload_n 0, 1) := by decide +kernel
theorem dL_texts_311 : decode cL_texts 311 = .ok (.ldc2_w 193, 3) := by decide +kernel
theorem dL_texts_314 : decode cL_texts 314 = .ok (.invokestatic 134, 3) := by decide +kernel
theorem dL_texts_317 : decode cL_texts 317 = .ok (.ifCond .eq 55, 3) := by decide +kernel
theorem dL_texts_320 : decode cL_texts 320 = .ok (.aload_n 0, 1) := by decide +kernel
theorem dL_texts_321 : decode cL_texts 321 = .ok (.invokevirtual 138, 3) := by decide +kernel
theorem dL_texts_324 : decode cL_texts 324 = .ok (.bipush 19, 2) := by decide +kernel
theorem dL_texts_326 : decode cL_texts 326 = .ok (.if_icmp .ne 46, 3) := by decide +kernel
theorem dL_texts_329 : decode cL_texts 329 = .ok (.aload_n 0, 1) := by decide +kernel
theorem dL_texts_330 : decode cL_texts 330 = .ok (.ldc2_w 159, 3) := by decide +kernel
theorem dL_texts_333 : decode cL_texts 333 = .ok (.invokestatic 134, 3) := by decide +kernel
theorem dL_texts_336 : decode cL_texts 336 = .ok (.ifCond .eq 36, 3) := by decide +kernel
theorem dL_texts_339 : decode cL_texts 339 = .ok (.aload_n 0, 1) := by decide +kernel
theorem dL_texts_340 : decode cL_texts 340 = .ok (.invokevirtual 138, 3) := by decide +kernel
theorem dL_texts_343 : decode cL_texts 343 = .ok (.bipush 19, 2) := by decide +kernel
theorem dL_texts_345 : decode cL_texts 345 = .ok (.if_icmp .ne 27, 3) := by decide +kernel
theorem dL_texts_348 : decode cL_texts 348 = .ok (.aload_n 0, 1) := by decide +kernel
theorem dL_texts_349 : decode cL_texts 349 = .ok (.bipush 7, 2) := by decide +kernel
theorem dL_texts_351 : decode cL_texts 351 = .ok (.iconst 0, 1) := by decide +kernel
theorem dL_texts_352 : decode cL_texts 352 = .ok (.iconst 0, 1) := by decide +kernel
theorem dL_texts_353 : decode cL_texts 353 = .ok (.iconst 0, 1) := by decide +kernel
theorem dL_texts_354 : decode cL_texts 354 = .ok (.iconst 0, 1) := by decide +kernel
theorem dL_texts_355 : decode cL_texts 355 = .ok (.invokestatic 97, 3) := by decide +kernel
theorem dL_texts_358 : decode cL_texts 358 = .ok (.bipush (-12), 2) := by decide +kernel
theorem dL_texts_360 : decode cL_texts 360 = .ok (.if_icmp .ne 12, 3) := by decide +kernel
theorem dL_texts_363 : decode cL_texts 363 = .ok (.aload_n 0, 1) := by decide +kernel
theorem dL_texts_364 : decode cL_texts 364 = .ok (.invokevirtual 131, 3) := by decide +kernel
theorem dL_texts_367 : decode cL_texts 367 = .ok (.bipush 20, 2) := by decide +kernel
theorem dL_texts_369 : decode cL_texts 369 = .ok (.if_icmp .eq 5, 3) := by decide +kernel
theorem dL_texts_372 : decode cL_texts 372 = .ok (.iconst 0, 1) := by decide +kernel
theorem dL_texts_373 : decode cL_texts 373 = .ok (.ireturn, 1) := by decide +kernel
theorem dL_texts_374 : decode cL_texts 374 = .ok (.aload_n 0, 1) := by decide +kernel
theorem dL_texts_375 : decode cL_texts 375 = .ok (.ldc2_w 195, 3) := by decide +kernel
theorem dL_texts_378 : decode cL_texts 378 = .ok (.invokestatic 134, 3) := by decide +kernel
theorem dL_texts_381 : decode cL_texts 381 = .ok (.ifCond .eq 207, 3) := by decide +kernel
theorem dL_texts_384 : decode cL_texts 384 = .ok (.aload_n 0, 1) := by decide +kernel
theorem dL_texts_385 : decode cL_texts 385 = .ok (.iconst 3, 1) := by decide +kernel
theorem dL_texts_386 : decode cL_texts 386 = .ok (.iconst 3, 1) := by decide +kernel
theorem dL_texts_387 : decode cL_texts 387 = .ok (.bipush 77, 2) := by decide +kernel
theorem dL_texts_389 : decode cL_texts 389 = .ok (.invokevirtual 15, 3) := by decide +kernel
theorem dL_texts_392 : decode cL_texts 392 = .ok (.ifCond .ne 196, 3) := by decide +kernel
theorem dL_texts_395 : decode cL_texts 395 = .ok (.aload_n 0, 1) := by decide +kernel
theorem dL_texts_396 : decode cL_texts 396 = .ok (.invokevirtual 37, 3) := by decide +kernel
theorem dL_texts_399 : decode cL_texts 399 = .ok (.bipush 24, 2) := by decide +kernel
theorem dL_texts_401 : decode cL_texts 401 = .ok (.if_icmp .ne 187, 3) := by decide +kernel
theorem dL_texts_404 : decode cL_texts 404 = .ok (.aload_n 0, 1) := by decide +kernel
theorem dL_texts_405 : decode cL_texts 405 = .ok (.invokevirtual 131, 3) := by decide +kernel
theorem dL_texts_408 : decode cL_texts 408 = .ok (.ifCond .ne 180, 3) := by decide +kernel
theorem dL_texts_411 : decode cL_texts 411 = .ok (.aload_n 0, 1) := by decide +kernel
theorem dL_texts_412 : decode cL_texts 412 = .ok (.iconst 0, 1) := by decide +kernel
theorem dL_texts_413 : decode cL_texts 413 = .ok (.iconst 0, 1) := by decide +kernel
theorem dL_texts_414 : decode cL_texts 414 = .ok (.invokevirtual 49, 3) := by decide +kernel
theorem dL_texts_417 : decode cL_texts 417 = .ok (.iconst 5, 1) := by decide +kernel
theorem dL_texts_418 : decode cL_texts 418 = .ok (.if_icmp .ne 170, 3) := by decide +kernel
theorem dL_texts_421 : decode cL_texts 421 = .ok (.aload_n 0, 1) := by decide +kernel
theorem dL_texts_422 : decode cL_texts 422 = .ok (.iconst 1, 1) := by decide +kernel
theorem dL_texts_423 : decode cL_texts 423 = .ok (.iconst 1, 1) := by decide +kernel
theorem dL_texts_424 : decode cL_texts 424 = .ok (.invokevirtual 49, 3) := by decide +kernel
theorem dL_texts_427 : decode cL_texts 427 = .ok (.iconst 2, 1) := by decide +kernel
theorem dL_texts_428 : decode cL_texts 428 = .ok (.if_icmp .ne 160, 3) := by decide +kernel
theorem dL_texts_431 : decode cL_texts 431 = .ok (.aload_n 0, 1) := by decide +kernel
theorem dL_texts_432 : decode cL_texts 432 = .ok (.iconst 3, 1) := by decide +kernel
theorem dL_texts_433 : decode cL_texts 433 = .ok (.invokevirtual 58, 3) := by decide +kernel
theorem dL_texts_436 : decode cL_texts 436 = .ok (.iconst 1, 1) := by decide +kernel
theorem dL_texts_437 : decode cL_texts 437 = .ok (.if_icmp .ne 151, 3) := by decide +kernel
theorem dL_texts_440 : decode cL_texts 440 = .ok (.aload_n 0, 1) := by decide +kernel
theorem dL_texts_441 : decode cL_texts 441 = .ok (.iconst 4, 1) := by decide +kernel
theorem dL_texts_442 : decode cL_texts 442 = .ok (.iconst 4, 1) := by decide +kernel
theorem dL_texts_443 : decode cL_texts 443 = .ok (.invokevirtual 9, 3) := by decide +kernel
theorem dL_texts_446 : decode cL_texts 446 = .ok (.bipush 24, 2) := by decide +kernel
theorem dL_texts_448 : decode cL_texts 448 = .ok (.if_icmp .ne 140, 3) := by decide +kernel
theorem dL_texts_451 : decode cL_texts 451 = .ok (.aload_n 0, 1) := by decide +kernel
theorem dL_texts_452 : decode cL_texts 452 = .ok (.iconst 3, 1) := by decide +kernel
theorem dL_texts_453 : decode cL_texts 453 = .ok (.iconst 3, 1) := by decide +kernel
theorem dL_texts_454 : decode cL_texts 454 = .ok (.invokevirtual 49, 3) := by decide +kernel
theorem dL_texts_457 : decode cL_texts 457 = .ok (.bipush 77, 2) := by decide +kernel
theorem dL_texts_459 : decode cL_texts 459 = .ok (.if_icmp .ne 129, 3) := by decide +kernel
theorem dL_texts_462 : decode cL_texts 462 = .ok (.aload_n 0, 1) := by decide +kernel
theorem dL_texts_463 : decode cL_texts 463 = .ok (.iconst 2, 1) := by decide +kernel
theorem dL_texts_464 : decode cL_texts 464 = .ok (.iconst 0, 1) := by decide +kernel
theorem dL_texts_465 : decode cL_texts 465 = .ok (.invokevirtual 49, 3) := by decide +kernel
theorem dL_texts_468 : decode cL_texts 468 = .ok (.ifCond .ne 120, 3) := by decide +kernel
theorem dL_texts_471 : decode cL_texts 471 = .ok (.aload_n 0, 1) := by decide +kernel
theorem dL_texts_472 : decode cL_texts 472 = .ok (.invokevirtual 46, 3) := by decide +kernel
theorem dL_texts_475 : decode cL_texts 475 = .ok (.iconst 2, 1) := by decide +kernel
theorem dL_texts_476 : decode cL_texts 476 = .ok (.if_icmp .ne 112, 3) := by decide +kernel
theorem dL_texts_479 : decode cL_texts 479 = .ok (.aload_n 0, 1) := by decide +kernel
theorem dL_texts_480 : decode cL_texts 480 = .ok (.invokevirtual 46, 3) := by decide +kernel
theorem dL_texts_483 : decode cL_texts 483 = .ok (.iconst 1, 1) := by decide +kernel
theorem dL_texts_484 : decode cL_texts 484 = .ok (.if_icmp .ne 104, 3) := by decide +kernel
theorem dL_texts_487 : decode cL_texts 487 = .ok (.aload_n 0, 1) := by decide +kernel
theorem dL_texts_488 : decode cL_texts 488 = .ok (.iconst 0, 1) := by decide +kernel
theorem dL_texts_489 : decode cL_texts 489 = .ok (.invokevirtual 61, 3) := by decide +kernel
theorem dL_texts_492 : decode cL_texts 492 = .ok (.iconst 4, 1) := by decide +kernel
theorem dL_texts_493 : decode cL_texts 493 = .ok (.if_icmp .ne 95, 3) := by decide +kernel
theorem dL_texts_496 : decode cL_texts 496 = .ok (.aload_n 0, 1) := by decide +kernel
theorem dL_texts_497 : decode cL_texts 497 = .ok (.iconst 0, 1) := by decide +kernel
theorem dL_texts_498 : decode cL_texts 498 = .ok (.iconst 0, 1) := by decide +kernel
theorem dL_texts_499 : decode cL_texts 499 = .ok (.invokevirtual 49, 3) := by decide +kernel
theorem dL_texts_502 : decode cL_texts 502 = .ok (.ifCond .ne 86, 3) := by decide +kernel
theorem dL_texts_505 : decode cL_texts 505 = .ok (.aload_n 0, 1) := by decide +kernel
theorem dL_texts_506 : decode cL_texts 506 = .ok (.iconst 3, 1) := by decide +kernel
theorem dL_texts_507 : decode cL_texts 507 = .ok (.iconst 3, 1) := by decide +kernel
theorem dL_texts_508 : decode cL_texts 508 = .ok (.invokevirtual 49, 3) := by decide +kernel
theorem dL_texts_511 : decode cL_texts 511 = .ok (.bipush 77, 2) := by decide +kernel
theorem dL_texts_513 : decode cL_texts 513 = .ok (.if_icmp .ne 75, 3) := by decide +kernel
theorem dL_texts_516 : decode cL_texts 516 = .ok (.aload_n 0, 1) := by decide +kernel
theorem dL_texts_517 : decode cL_texts 517 = .ok (.ldc2_w 197, 3) := by decide +kernel
theorem dL_texts_520 : decode cL_texts 520 = .ok (.invokestatic 134, 3) := by decide +kernel
theorem dL_texts_523 : decode cL_texts 523 = .ok (.ifCond .eq 65, 3) := by decide +kernel
theorem dL_texts_526 : decode cL_texts 526 = .ok (.aload_n 0, 1) := by decide +kernel
theorem dL_texts_527 : decode cL_texts 527 = .ok (.invokevirtual 37, 3) := by decide +kernel
theorem dL_texts_530 : decode cL_texts 530 = .ok (.bipush 12, 2) := by decide +kernel
theorem dL_texts_532 : decode cL_texts 532 = .ok (.if_icmp .ne 56, 3) := by decide +kernel
theorem dL_texts_535 : decode cL_texts 535 = .ok (.aload_n 0, 1) := by decide +kernel
theorem dL_texts_536 : decode cL_texts 536 = .ok (.iconst 0, 1) := by decide +kernel
theorem dL_texts_537 : decode cL_texts 537 = .ok (.iconst 0, 1) := by decide +kernel
theorem dL_texts_538 : decode cL_texts 538 = .ok (.invokevirtual 49, 3) := by decide +kernel
theorem dL_texts_541 : decode cL_texts 541 = .ok (.sipush 9999, 3) := by decide +kernel
theorem dL_texts_544 : decode cL_texts 544 = .ok (.if_icmp .ne 44, 3) := by decide +kernel
theorem dL_texts_547 : decode cL_texts 547 = .ok (.aload_n 0, 1) := by decide +kernel
theorem dL_texts_548 : decode cL_texts 548 = .ok (.iconst 1, 1) := by decide +kernel
theorem dL_texts_549 : decode cL_texts 549 = .ok (.invokevirtual 55, 3) := by decide +kernel
theorem dL_texts_552 : decode cL_texts 552 = .ok (.iconst 1, 1) := by decide +kernel
theorem dL_texts_553 : decode cL_texts 553 = .ok (.if_icmp .ne 35, 3) := by decide +kernel
theorem dL_texts_556 : decode cL_texts 556 = .ok (.aload_n 0, 1) := by decide +kernel
theorem dL_texts_557 : decode cL_texts 557 = .ok (.iconst 2, 1) := by decide +kernel
theorem dL_texts_558 : decode cL_texts 558 = .ok (.invokevirtual 55, 3) := by decide +kernel
theorem dL_texts_561 : decode cL_texts 561 = .ok (.iconst 1, 1) := by decide +kernel
theorem dL_texts_562 : decode cL_texts 562 = .ok (.if_icmp .ne 26, 3) := by decide +kernel
theorem dL_texts_565 : decode cL_texts 565 = .ok (.aload_n 0, 1) := by decide +kernel
theorem dL_texts_566 : decode cL_texts 566 = .ok (.invokevirtual 88, 3) := by decide +kernel
theorem dL_texts_569 : decode cL_texts 569 = .ok (.iconst 2, 1) := by decide +kernel
theorem dL_texts_570 : decode cL_texts 570 = .ok (.if_icmp .ne 18, 3) := by decide +kernel
theorem dL_texts_573 : decode cL_texts 573 = .ok (.aload_n 0, 1) := by decide +kernel
theorem dL_texts_574 : decode cL_texts 574 = .ok (.bipush 7, 2) := by decide +kernel
theorem dL_texts_576 : decode cL_texts 576 = .ok (.iconst 0, 1) := by decide +kernel
theorem dL_texts_577 : decode cL_texts 577 = .ok (.iconst 0, 1) := by decide +kernel
theorem dL_texts_578 : decode cL_texts 578 = .ok (.iconst 0, 1) := by decide +kernel
theorem dL_texts_579 : decode cL_texts 579 = .ok (.iconst 0, 1) := by decide +kernel
theorem dL_texts_580 : decode cL_texts 580 = .ok (.invokestatic 97, 3) := by decide +kernel
theorem dL_texts_583 : decode cL_texts 583 = .ok (.bipush (-12), 2) := by decide +kernel
theorem dL_texts_585 : decode cL_texts 585 = .ok (.if_icmp .eq 5, 3) := by decide +kernel
theorem dL_texts_588 : decode cL_texts 588 = .ok (.iconst 0, 1) := by decide +kernel
theorem dL_texts_589 : decode cL_texts 589 = .ok (.ireturn, 1) := by decide +kernel
theorem dL_texts_590 : decode cL_texts 590 = .ok (.iconst 0, 1) := by decide +kernel
theorem dL_texts_591 : decode cL_texts 591 = .ok (.istore_n 1, 1) := by decide +kernel
theorem dL_texts_592 : decode cL_texts 592 = .ok (.iload_n 1, 1) := by decide +kernel
theorem dL_texts_593 : decode cL_texts 593 = .ok (.bipush 60, 2) := by decide +kernel
theorem dL_texts_595 : decode cL_texts 595 = .ok (.if_icmp .ge 42, 3) := by decide +kernel
theorem dL_texts_598 : decode cL_texts 598 = .ok (.aload_n 0, 1) := by decide +kernel
theorem dL_texts_599 : decode cL_texts 599 = .ok (.bipush 55, 2) := by decide +kernel
theorem dL_texts_601 : decode cL_texts 601 = .ok (.invokevirtual 34, 3) := by decide +kernel
theorem dL_texts_604 : decode cL_texts 604 = .ok (.iload_n 1, 1) := by decide +kernel
theorem dL_texts_605 : decode cL_texts 605 = .ok (.iconst 1, 1) := by decide +kernel
theorem dL_texts_606 : decode cL_texts 606 = .ok (.iadd, 1) := by decide +kernel
theorem dL_texts_607 : decode cL_texts 607 = .ok (.if_icmp .ne 22, 3) := by decide +kernel
theorem dL_texts_610 : decode cL_texts 610 = .ok (.aload_n 0, 1) := by decide +kernel
theorem dL_texts_611 : decode cL_texts 611 = .ok (.invokevirtual 138, 3) := by decide +kernel
theorem dL_texts_614 : decode cL_texts 614 = .ok (.iload_n 1, 1) := by decide +kernel
theorem dL_texts_615 : decode cL_texts 615 = .ok (.iconst 4, 1) := by decide +kernel
theorem dL_texts_616 : decode cL_texts 616 = .ok (.if_icmp .ge 9, 3) := by decide +kernel
theorem dL_texts_619 : decode cL_texts 619 = .ok (.iload_n 1, 1) := by decide +kernel
theorem dL_texts_620 : decode cL_texts 620 = .ok (.iconst 1, 1) := by decide +kernel
theorem dL_texts_621 : decode cL_texts 621 = .ok (.iadd, 1) := by decide +kernel
theorem dL_texts_622 : decode cL_texts 622 = .ok (.goto 4, 3) := by decide +kernel
theorem dL_texts_625 : decode cL_texts 625 = .ok (.iconst 4, 1) := by decide +kernel
theorem dL_texts_626 : decode cL_texts 626 = .ok (.if_icmp .eq 5, 3) := by decide +kernel
theorem dL_texts_629 : decode cL_texts 629 = .ok (.iconst 0, 1) := by decide +kernel
theorem dL_texts_630 : decode cL_texts 630 = .ok (.ireturn, 1) := by decide +kernel
theorem dL_texts_631 : decode cL_texts 631 = .ok (.iinc 1 1, 3) := by decide +kernel
theorem dL_texts_634 : decode cL_texts 634 = .ok (.goto (-42), 3) := by decide +kernel
theorem dL_texts_637 : decode cL_texts 637 = .ok (.aload_n 0, 1) := by decide +kernel
theorem dL_texts_638 : decode cL_texts 638 = .ok (.bipush 6, 2) := by decide +kernel
theorem dL_texts_640 : decode cL_texts 640 = .ok (.bipush 47, 2) := by decide +kernel
theorem dL_texts_642 : decode cL_texts 642 = .ok (.iconst 0, 1) := by decide +kernel
theorem dL_texts_643 : decode cL_texts 643 = .ok (.iconst 0, 1) := by decide +kernel
theorem dL_texts_644 : decode cL_texts 644 = .ok (.iconst 0, 1) := by decide +kernel
theorem dL_texts_645 : decode cL_texts 645 = .ok (.invokestatic 97, 3) := by decide +kernel
theorem dL_texts_648 : decode cL_texts 648 = .ok (.bipush (-13), 2) := by decide +kernel
theorem dL_texts_650 : decode cL_texts 650 = .ok (.if_icmp .ne 31, 3) := by decide +kernel
theorem dL_texts_653 : decode cL_texts 653 = .ok (.aload_n 0, 1) := by decide +kernel
theorem dL_texts_654 : decode cL_texts 654 = .ok (.bipush 7, 2) := by decide +kernel
theorem dL_texts_656 : decode cL_texts 656 = .ok (.iconst 0, 1) := by decide +kernel
theorem dL_texts_657 : decode cL_texts 657 = .ok (.iconst 0, 1) := by decide +kernel
theorem dL_texts_658 : decode cL_texts 658 = .ok (.iconst 0, 1) := by decide +kernel
theorem dL_texts_659 : decode cL_texts 659 = .ok (.iconst 0, 1) := by decide +kernel
theorem dL_texts_660 : decode cL_texts 660 = .ok (.invokestatic 97, 3) := by decide +kernel
theorem dL_texts_663 : decode cL_texts 663 = .ok (.bipush (-12), 2) := by decide +kernel
theorem dL_texts_665 : decode cL_texts 665 = .ok (.if_icmp .ne 16, 3) := by decide +kernel
theorem dL_texts_668 : decode cL_texts 668 = .ok (.aload_n 0, 1) := by decide +kernel
theorem dL_texts_669 : decode cL_texts 669 = .ok (.invokevirtual 131, 3) := by decide +kernel
theorem dL_texts_672 : decode cL_texts 672 = .ok (.bipush 60, 2) := by decide +kernel
theorem dL_texts_674 : decode cL_texts 674 = .ok (.if_icmp .ne 7, 3) := by decide +kernel
theorem dL_texts_677 : decode cL_texts 677 = .ok (.iconst 1, 1) := by decide +kernel
theorem dL_texts_678 : decode cL_texts 678 = .ok (.goto 4, 3) := by decide +kernel
theorem dL_texts_681 : decode cL_texts 681 = .ok (.iconst 0, 1) := by decide +kernel
theorem dL_texts_682 : decode cL_texts 682 = .ok (.ireturn, 1) := by decide +kernel
theorem dL_law_0 : decode cL_law 0 = .ok (.invokestatic 199, 3) := by decide +kernel
theorem dL_law_3 : decode cL_law 3 = .ok (.ifCond .eq 15, 3) := by decide +kernel
theorem dL_law_6 : decode cL_law 6 = .ok (.invokestatic 203, 3) := by decide +kernel
theorem dL_law_9 : decode cL_law 9 = .ok (.ifCond .eq 9, 3) := by decide +kernel
theorem dL_law_12 : decode cL_law 12 = .ok (.invokestatic 206, 3) := by decide +kernel
theorem dL_law_15 : decode cL_law 15 = .ok (.ifCond .ne 5, 3) := by decide +kernel
theorem dL_law_18 : decode cL_law 18 = .ok (.iconst 0, 1) := by decide +kernel
theorem dL_law_19 : decode cL_law 19 = .ok (.ireturn, 1) := by decide +kernel
theorem dL_law_20 : decode cL_law 20 = .ok (.new 10, 3) := by decide +kernel
theorem dL_law_23 : decode cL_law 23 = .ok (.dup, 1) := by decide +kernel
theorem dL_law_24 : decode cL_law 24 = .ok (.invokespecial 110, 3) := by decide +kernel
theorem dL_law_27 : decode cL_law 27 = .ok (.astore_n 1, 1) := by decide +kernel
theorem dL_law_28 : decode cL_law 28 = .ok (.bipush 64, 2) := by decide +kernel
theorem dL_law_30 : decode cL_law 30 = .ok (.newarray .long, 2) := by decide +kernel
theorem dL_law_32 : decode cL_law 32 = .ok (.astore_n 2, 1) := by decide +kernel
theorem dL_law_33 : decode cL_law 33 = .ok (.iconst 0, 1) := by decide +kernel
theorem dL_law_34 : decode cL_law 34 = .ok (.istore_n 3, 1) := by decide +kernel
theorem dL_law_35 : decode cL_law 35 = .ok (.aload_n 1, 1) := by decide +kernel
theorem dL_law_36 : decode cL_law 36 = .ok (.iconst 3, 1) := by decide +kernel
theorem dL_law_37 : decode cL_law 37 = .ok (.iconst 1, 1) := by decide +kernel
theorem dL_law_38 : decode cL_law 38 = .ok (.iconst 3, 1) := by decide +kernel
theorem dL_law_39 : decode cL_law 39 = .ok (.iconst 1, 1) := by decide +kernel
theorem dL_law_40 : decode cL_law 40 = .ok (.invokevirtual 19, 3) := by decide +kernel
theorem dL_law_43 : decode cL_law 43 = .ok (.iconst 1, 1) := by decide +kernel
theorem dL_law_44 : decode cL_law 44 = .ok (.if_icmp .ne 44, 3) := by decide +kernel
theorem dL_law_47 : decode cL_law 47 = .ok (.aload_n 1, 1) := by decide +kernel
theorem dL_law_48 : decode cL_law 48 = .ok (.iconst 2, 1) := by decide +kernel
theorem dL_law_49 : decode cL_law 49 = .ok (.iconst 1, 1) := by decide +kernel
theorem dL_law_50 : decode cL_law 50 = .ok (.bipush 40, 2) := by decide +kernel
theorem dL_law_52 : decode cL_law 52 = .ok (.invokevirtual 15, 3) := by decide +kernel
theorem dL_law_55 : decode cL_law 55 = .ok (.iconst 1, 1) := by decide +kernel
theorem dL_law_56 : decode cL_law 56 = .ok (.if_icmp .ne 32, 3) := by decide +kernel
theorem dL_law_59 : decode cL_law 59 = .ok (.aload_n 1, 1) := by decide +kernel
theorem dL_law_60 : decode cL_law 60 = .ok (.bipush 7, 2) := by decide +kernel
theorem dL_law_62 : decode cL_law 62 = .ok (.invokevirtual 27, 3) := by decide +kernel
theorem dL_law_65 : decode cL_law 65 = .ok (.iconst 2, 1) := by decide +kernel
theorem dL_law_66 : decode cL_law 66 = .ok (.if_icmp .ne 22, 3) := by decide +kernel
theorem dL_law_69 : decode cL_law 69 = .ok (.aload_n 1, 1) := by decide +kernel
theorem dL_law_70 : decode cL_law 70 = .ok (.iconst 0, 1) := by decide +kernel
theorem dL_law_71 : decode cL_law 71 = .ok (.invokevirtual 23, 3) := by decide +kernel
theorem dL_law_74 : decode cL_law 74 = .ok (.bipush 16, 2) := by decide +kernel
theorem dL_law_76 : decode cL_law 76 = .ok (.if_icmp .ne 12, 3) := by decide +kernel
theorem dL_law_79 : decode cL_law 79 = .ok (.aload_n 1, 1) := by decide +kernel
theorem dL_law_80 : decode cL_law 80 = .ok (.iconst 1, 1) := by decide +kernel
theorem dL_law_81 : decode cL_law 81 = .ok (.invokevirtual 40, 3) := by decide +kernel
theorem dL_law_84 : decode cL_law 84 = .ok (.iconst 4, 1) := by decide +kernel
theorem dL_law_85 : decode cL_law 85 = .ok (.if_icmp .eq 5, 3) := by decide +kernel
theorem dL_law_88 : decode cL_law 88 = .ok (.iconst 0, 1) := by decide +kernel
theorem dL_law_89 : decode cL_law 89 = .ok (.ireturn, 1) := by decide +kernel
theorem dL_law_90 : decode cL_law 90 = .ok (.aload_n 1, 1) := by decide +kernel
theorem dL_law_91 : decode cL_law 91 = .ok (.invokestatic 102, 3) := by decide +kernel
theorem dL_law_94 : decode cL_law 94 = .ok (.lstore 4, 2) := by decide +kernel
theorem dL_law_96 : decode cL_law 96 = .ok (.iconst 0, 1) := by decide +kernel
theorem dL_law_97 : decode cL_law 97 = .ok (.istore 6, 2) := by decide +kernel
theorem dL_law_99 : decode cL_law 99 = .ok (.iload 6, 2) := by decide +kernel
theorem dL_law_101 : decode cL_law 101 = .ok (.bipush 28, 2) := by decide +kernel
theorem dL_law_103 : decode cL_law 103 = .ok (.if_icmp .ge 354, 3) := by decide +kernel
theorem dL_law_106 : decode cL_law 106 = .ok (.aload_n 0, 1) := by decide +kernel
theorem dL_law_107 : decode cL_law 107 = .ok (.iload 6, 2) := by decide +kernel
theorem dL_law_109 : decode cL_law 109 = .ok (.invokestatic 209, 3) := by decide +kernel
theorem dL_law_112 : decode cL_law 112 = .ok (.istore 7, 2) := by decide +kernel
theorem dL_law_114 : decode cL_law 114 = .ok (.iload 7, 2) := by decide +kernel
theorem dL_law_116 : decode cL_law 116 = .ok (.bipush 18, 2) := by decide +kernel
theorem dL_law_118 : decode cL_law 118 = .ok (.invokestatic 213, 3) := by decide +kernel
theorem dL_law_121 : decode cL_law 121 = .ok (.istore 8, 2) := by decide +kernel
theorem dL_law_123 : decode cL_law 123 = .ok (.aload_n 2, 1) := by decide +kernel
theorem dL_law_124 : decode cL_law 124 = .ok (.iload_n 3, 1) := by decide +kernel
theorem dL_law_125 : decode cL_law 125 = .ok (.aload_n 1, 1) := by decide +kernel
theorem dL_law_126 : decode cL_law 126 = .ok (.invokestatic 102, 3) := by decide +kernel
theorem dL_law_129 : decode cL_law 129 = .ok (.lastore, 1) := by decide +kernel
theorem dL_law_130 : decode cL_law 130 = .ok (.aload_n 1, 1) := by decide +kernel
theorem dL_law_131 : decode cL_law 131 = .ok (.bipush 8, 2) := by decide +kernel
theorem dL_law_133 : decode cL_law 133 = .ok (.invokevirtual 61, 3) := by decide +kernel
theorem dL_law_136 : decode cL_law 136 = .ok (.istore 9, 2) := by decide +kernel
theorem dL_law_138 : decode cL_law 138 = .ok (.iload 7, 2) := by decide +kernel
theorem dL_law_140 : decode cL_law 140 = .ok (.iconst 5, 1) := by decide +kernel
theorem dL_law_141 : decode cL_law 141 = .ok (.ishr, 1) := by decide +kernel
theorem dL_law_142 : decode cL_law 142 = .ok (.iconst 5, 1) := by decide +kernel
theorem dL_law_143 : decode cL_law 143 = .ok (.invokestatic 213, 3) := by decide +kernel
theorem dL_law_146 : decode cL_law 146 = .ok (.istore 10, 2) := by decide +kernel
theorem dL_law_148 : decode cL_law 148 = .ok (.iload 7, 2) := by decide +kernel
theorem dL_law_150 : decode cL_law 150 = .ok (.bipush 8, 2) := by decide +kernel
theorem dL_law_152 : decode cL_law 152 = .ok (.ishr, 1) := by decide +kernel
theorem dL_law_153 : decode cL_law 153 = .ok (.iconst 5, 1) := by decide +kernel
theorem dL_law_154 : decode cL_law 154 = .ok (.invokestatic 213, 3) := by decide +kernel
theorem dL_law_157 : decode cL_law 157 = .ok (.istore 11, 2) := by decide +kernel
theorem dL_law_159 : decode cL_law 159 = .ok (.iload 8, 2) := by decide +kernel
theorem dL_law_161 : decode cL_law 161 = .ok (.bipush 6, 2) := by decide +kernel
theorem dL_law_163 : decode cL_law 163 = .ok (.if_icmp .ge 38, 3) := by decide +kernel
theorem dL_law_166 : decode cL_law 166 = .ok (.aload_n 1, 1) := by decide +kernel
theorem dL_law_167 : decode cL_law 167 = .ok (.iconst 1, 1) := by decide +kernel
theorem dL_law_168 : decode cL_law 168 = .ok (.iload 10, 2) := by decide +kernel
theorem dL_law_170 : decode cL_law 170 = .ok (.iload 11, 2) := by decide +kernel
theorem dL_law_172 : decode cL_law 172 = .ok (.iload 7, 2) := by decide +kernel
theorem dL_law_174 : decode cL_law 174 = .ok (.bipush 10, 2) := by decide +kernel
theorem dL_law_176 : decode cL_law 176 = .ok (.ishr, 1) := by decide +kernel
theorem dL_law_177 : decode cL_law 177 = .ok (.bipush 9, 2) := by decide +kernel
theorem dL_law_179 : decode cL_law 179 = .ok (.invokestatic 213, 3) := by decide +kernel
theorem dL_law_182 : decode cL_law 182 = .ok (.iload 7, 2) := by decide +kernel
theorem dL_law_184 : decode cL_law 184 = .ok (.bipush 12, 2) := by decide +kernel
theorem dL_law_186 : decode cL_law 186 = .ok (.ishr, 1) := by decide +kernel
theorem dL_law_187 : decode cL_law 187 = .ok (.sipush 1300, 3) := by decide +kernel
theorem dL_law_190 : decode cL_law 190 = .ok (.invokestatic 213, 3) := by decide +kernel
theorem dL_law_193 : decode cL_law 193 = .ok (.imul, 1) := by decide +kernel
theorem dL_law_194 : decode cL_law 194 = .ok (.iconst 0, 1) := by decide +kernel
theorem dL_law_195 : decode cL_law 195 = .ok (.invokestatic 97, 3) := by decide +kernel
theorem dL_law_198 : decode cL_law 198 = .ok (.goto 196, 3) := by decide +kernel
theorem dL_law_201 : decode cL_law 201 = .ok (.iload 8, 2) := by decide +kernel
theorem dL_law_203 : decode cL_law 203 = .ok (.bipush 8, 2) := by decide +kernel
theorem dL_law_205 : decode cL_law 205 = .ok (.if_icmp .ge 50, 3) := by decide +kernel
theorem dL_law_208 : decode cL_law 208 = .ok (.aload_n 1, 1) := by decide +kernel
theorem dL_law_209 : decode cL_law 209 = .ok (.iconst 2, 1) := by decide +kernel
theorem dL_law_210 : decode cL_law 210 = .ok (.iload 7, 2) := by decide +kernel
theorem dL_law_212 : decode cL_law 212 = .ok (.iconst 5, 1) := by decide +kernel
theorem dL_law_213 : decode cL_law 213 = .ok (.ishr, 1) := by decide +kernel
theorem dL_law_214 : decode cL_law 214 = .ok (.bipush 53, 2) := by decide +kernel
theorem dL_law_216 : decode cL_law 216 = .ok (.invokestatic 213, 3) := by decide +kernel
theorem dL_law_219 : decode cL_law 219 = .ok (.iload 7, 2) := by decide +kernel
theorem dL_law_221 : decode cL_law 221 = .ok (.bipush 9, 2) := by decide +kernel
theorem dL_law_223 : decode cL_law 223 = .ok (.ishr, 1) := by decide +kernel
theorem dL_law_224 : decode cL_law 224 = .ok (.bipush 10, 2) := by decide +kernel
theorem dL_law_226 : decode cL_law 226 = .ok (.invokestatic 213, 3) := by decide +kernel
theorem dL_law_229 : decode cL_law 229 = .ok (.iload 7, 2) := by decide +kernel
theorem dL_law_231 : decode cL_law 231 = .ok (.bipush 12, 2) := by decide +kernel
theorem dL_law_233 : decode cL_law 233 = .ok (.ishr, 1) := by decide +kernel
theorem dL_law_234 : decode cL_law 234 = .ok (.bipush 50, 2) := by decide +kernel
theorem dL_law_236 : decode cL_law 236 = .ok (.invokestatic 213, 3) := by decide +kernel
theorem dL_law_239 : decode cL_law 239 = .ok (.iload 7, 2) := by decide +kernel
theorem dL_law_241 : decode cL_law 241 = .ok (.bipush 16, 2) := by decide +kernel
theorem dL_law_243 : decode cL_law 243 = .ok (.ishr, 1) := by decide +kernel
theorem dL_law_244 : decode cL_law 244 = .ok (.bipush 11, 2) := by decide +kernel
theorem dL_law_246 : decode cL_law 246 = .ok (.invokestatic 213, 3) := by decide +kernel
theorem dL_law_249 : decode cL_law 249 = .ok (.invokestatic 97, 3) := by decide +kernel
theorem dL_law_252 : decode cL_law 252 = .ok (.goto 142, 3) := by decide +kernel
theorem dL_law_255 : decode cL_law 255 = .ok (.iload 8, 2) := by decide +kernel
theorem dL_law_257 : decode cL_law 257 = .ok (.bipush 8, 2) := by decide +kernel
theorem dL_law_259 : decode cL_law 259 = .ok (.if_icmp .ne 32, 3) := by decide +kernel
theorem dL_law_262 : decode cL_law 262 = .ok (.aload_n 1, 1) := by decide +kernel
theorem dL_law_263 : decode cL_law 263 = .ok (.iconst 0, 1) := by decide +kernel
theorem dL_law_264 : decode cL_law 264 = .ok (.iload 7, 2) := by decide +kernel
theorem dL_law_266 : decode cL_law 266 = .ok (.iconst 5, 1) := by decide +kernel
theorem dL_law_267 : decode cL_law 267 = .ok (.ishr, 1) := by decide +kernel
theorem dL_law_268 : decode cL_law 268 = .ok (.bipush 12, 2) := by decide +kernel
theorem dL_law_270 : decode cL_law 270 = .ok (.invokestatic 213, 3) := by decide +kernel
theorem dL_law_273 : decode cL_law 273 = .ok (.iload 7, 2) := by decide +kernel
theorem dL_law_275 : decode cL_law 275 = .ok (.bipush 9, 2) := by decide +kernel
theorem dL_law_277 : decode cL_law 277 = .ok (.ishr, 1) := by decide +kernel
theorem dL_law_278 : decode cL_law 278 = .ok (.bipush 11, 2) := by decide +kernel
theorem dL_law_280 : decode cL_law 280 = .ok (.invokestatic 213, 3) := by decide +kernel
theorem dL_law_283 : decode cL_law 283 = .ok (.iconst 0, 1) := by decide +kernel
theorem dL_law_284 : decode cL_law 284 = .ok (.iconst 0, 1) := by decide +kernel
theorem dL_law_285 : decode cL_law 285 = .ok (.invokestatic 97, 3) := by decide +kernel
theorem dL_law_288 : decode cL_law 288 = .ok (.goto 106, 3) := by decide +kernel
theorem dL_law_291 : decode cL_law 291 = .ok (.iload 8, 2) := by decide +kernel
theorem dL_law_293 : decode cL_law 293 = .ok (.bipush 12, 2) := by decide +kernel
theorem dL_law_295 : decode cL_law 295 = .ok (.if_icmp .ge 22, 3) := by decide +kernel
theorem dL_law_298 : decode cL_law 298 = .ok (.aload_n 1, 1) := by decide +kernel
theorem dL_law_299 : decode cL_law 299 = .ok (.iconst 3, 1) := by decide +kernel
theorem dL_law_300 : decode cL_law 300 = .ok (.iload 7, 2) := by decide +kernel
theorem dL_law_302 : decode cL_law 302 = .ok (.iconst 5, 1) := by decide +kernel
theorem dL_law_303 : decode cL_law 303 = .ok (.ishr, 1) := by decide +kernel
theorem dL_law_304 : decode cL_law 304 = .ok (.iconst 4, 1) := by decide +kernel
theorem dL_law_305 : decode cL_law 305 = .ok (.invokestatic 213, 3) := by decide +kernel
theorem dL_law_308 : decode cL_law 308 = .ok (.iconst 0, 1) := by decide +kernel
theorem dL_law_309 : decode cL_law 309 = .ok (.iconst 0, 1) := by decide +kernel
theorem dL_law_310 : decode cL_law 310 = .ok (.iconst 0, 1) := by decide +kernel
theorem dL_law_311 : decode cL_law 311 = .ok (.invokestatic 97, 3) := by decide +kernel
theorem dL_law_314 : decode cL_law 314 = .ok (.goto 80, 3) := by decide +kernel
theorem dL_law_317 : decode cL_law 317 = .ok (.iload 8, 2) := by decide +kernel
theorem dL_law_319 : decode cL_law 319 = .ok (.bipush 12, 2) := by decide +kernel
theorem dL_law_321 : decode cL_law 321 = .ok (.if_icmp .ne 23, 3) := by decide +kernel
theorem dL_law_324 : decode cL_law 324 = .ok (.aload_n 1, 1) := by decide +kernel
theorem dL_law_325 : decode cL_law 325 = .ok (.iconst 4, 1) := by decide +kernel
theorem dL_law_326 : decode cL_law 326 = .ok (.iload 7, 2) := by decide +kernel
theorem dL_law_328 : decode cL_law 328 = .ok (.iconst 5, 1) := by decide +kernel
theorem dL_law_329 : decode cL_law 329 = .ok (.ishr, 1) := by decide +kernel
theorem dL_law_330 : decode cL_law 330 = .ok (.bipush 101, 2) := by decide +kernel
theorem dL_law_332 : decode cL_law 332 = .ok (.invokestatic 213, 3) := by decide +kernel
theorem dL_law_335 : decode cL_law 335 = .ok (.iconst 0, 1) := by decide +kernel
theorem dL_law_336 : decode cL_law 336 = .ok (.iconst 0, 1) := by decide +kernel
theorem dL_law_337 : decode cL_law 337 = .ok (.iconst 0, 1) := by decide +kernel
theorem dL_law_338 : decode cL_law 338 = .ok (.invokestatic 97, 3) := by decide +kernel
theorem dL_law_341 : decode cL_law 341 = .ok (.goto 53, 3) := by decide +kernel
theorem dL_law_344 : decode cL_law 344 = .ok (.iload 8, 2) := by decide +kernel
theorem dL_law_346 : decode cL_law 346 = .ok (.bipush 13, 2) := by decide +kernel
theorem dL_law_348 : decode cL_law 348 = .ok (.if_icmp .ne 15, 3) := by decide +kernel
theorem dL_law_351 : decode cL_law 351 = .ok (.aload_n 1, 1) := by decide +kernel
theorem dL_law_352 : decode cL_law 352 = .ok (.iconst 5, 1) := by decide +kernel
theorem dL_law_353 : decode cL_law 353 = .ok (.iconst 0, 1) := by decide +kernel
theorem dL_law_354 : decode cL_law 354 = .ok (.iconst 0, 1) := by decide +kernel
theorem dL_law_355 : decode cL_law 355 = .ok (.iconst 0, 1) := by decide +kernel
theorem dL_law_356 : decode cL_law 356 = .ok (.iconst 0, 1) := by decide +kernel
theorem dL_law_357 : decode cL_law 357 = .ok (.invokestatic 97, 3) := by decide +kernel
theorem dL_law_360 : decode cL_law 360 = .ok (.goto 34, 3) := by decide +kernel
theorem dL_law_363 : decode cL_law 363 = .ok (.iload 8, 2) := by decide +kernel
theorem dL_law_365 : decode cL_law 365 = .ok (.bipush 16, 2) := by decide +kernel
theorem dL_law_367 : decode cL_law 367 = .ok (.if_icmp .ge 10, 3) := by decide +kernel
theorem dL_law_370 : decode cL_law 370 = .ok (.aload_n 1, 1) := by decide +kernel
theorem dL_law_371 : decode cL_law 371 = .ok (.invokevirtual 121, 3) := by decide +kernel
theorem dL_law_374 : decode cL_law 374 = .ok (.goto 20, 3) := by decide +kernel
theorem dL_law_377 : decode cL_law 377 = .ok (.aload_n 1, 1) := by decide +kernel
theorem dL_law_378 : decode cL_law 378 = .ok (.bipush 9, 2) := by decide +kernel
theorem dL_law_380 : decode cL_law 380 = .ok (.iload 7, 2) := by decide +kernel
theorem dL_law_382 : decode cL_law 382 = .ok (.iconst 5, 1) := by decide +kernel
theorem dL_law_383 : decode cL_law 383 = .ok (.ishr, 1) := by decide +kernel
theorem dL_law_384 : decode cL_law 384 = .ok (.iconst 2, 1) := by decide +kernel
theorem dL_law_385 : decode cL_law 385 = .ok (.invokestatic 213, 3) := by decide +kernel
theorem dL_law_388 : decode cL_law 388 = .ok (.iconst 0, 1) := by decide +kernel
theorem dL_law_389 : decode cL_law 389 = .ok (.iconst 0, 1) := by decide +kernel
theorem dL_law_390 : decode cL_law 390 = .ok (.iconst 0, 1) := by decide +kernel
theorem dL_law_391 : decode cL_law 391 = .ok (.invokestatic 97, 3) := by decide +kernel
theorem dL_law_394 : decode cL_law 394 = .ok (.istore 12, 2) := by decide +kernel
theorem dL_law_396 : decode cL_law 396 = .ok (.iload 12, 2) := by decide +kernel
theorem dL_law_398 : decode cL_law 398 = .ok (.iconst (-1), 1) := by decide +kernel
theorem dL_law_399 : decode cL_law 399 = .ok (.if_icmp .ge 7, 3) := by decide +kernel
theorem dL_law_402 : decode cL_law 402 = .ok (.iconst 1, 1) := by decide +kernel
theorem dL_law_403 : decode cL_law 403 = .ok (.goto 4, 3) := by decide +kernel
theorem dL_law_406 : decode cL_law 406 = .ok (.iconst 0, 1) := by decide +kernel
theorem dL_law_407 : decode cL_law 407 = .ok (.istore 13, 2) := by decide +kernel
theorem dL_law_409 : decode cL_law 409 = .ok (.iload 13, 2) := by decide +kernel
theorem dL_law_411 : decode cL_law 411 = .ok (.ifCond .eq 27, 3) := by decide +kernel
theorem dL_law_414 : decode cL_law 414 = .ok (.aload_n 1, 1) := by decide +kernel
theorem dL_law_415 : decode cL_law 415 = .ok (.bipush 8, 2) := by decide +kernel
theorem dL_law_417 : decode cL_law 417 = .ok (.invokevirtual 61, 3) := by decide +kernel
theorem dL_law_420 : decode cL_law 420 = .ok (.iload 9, 2) := by decide +kernel
theorem dL_law_422 : decode cL_law 422 = .ok (.if_icmp .ne 14, 3) := by decide +kernel
theorem dL_law_425 : decode cL_law 425 = .ok (.aload_n 1, 1) := by decide +kernel
theorem dL_law_426 : decode cL_law 426 = .ok (.invokestatic 102, 3) := by decide +kernel
theorem dL_law_429 : decode cL_law 429 = .ok (.aload_n 2, 1) := by decide +kernel
theorem dL_law_430 : decode cL_law 430 = .ok (.iload_n 3, 1) := by decide +kernel
theorem dL_law_431 : decode cL_law 431 = .ok (.laload, 1) := by decide +kernel
theorem dL_law_432 : decode cL_law 432 = .ok (.lcmp, 1) := by decide +kernel
theorem dL_law_433 : decode cL_law 433 = .ok (.ifCond .eq 5, 3) := by decide +kernel
theorem dL_law_436 : decode cL_law 436 = .ok (.iconst 0, 1) := by decide +kernel
theorem dL_law_437 : decode cL_law 437 = .ok (.ireturn, 1) := by decide +kernel
theorem dL_law_438 : decode cL_law 438 = .ok (.iload_n 3, 1) := by decide +kernel
theorem dL_law_439 : decode cL_law 439 = .ok (.iload 13, 2) := by decide +kernel
theorem dL_law_441 : decode cL_law 441 = .ok (.ifCond .eq 7, 3) := by decide +kernel
theorem dL_law_444 : decode cL_law 444 = .ok (.iconst 0, 1) := by decide +kernel
theorem dL_law_445 : decode cL_law 445 = .ok (.goto 4, 3) := by decide +kernel
theorem dL_law_448 : decode cL_law 448 = .ok (.iconst 1, 1) := by decide +kernel
theorem dL_law_449 : decode cL_law 449 = .ok (.iadd, 1) := by decide +kernel
theorem dL_law_450 : decode cL_law 450 = .ok (.istore_n 3, 1) := by decide +kernel
theorem dL_law_451 : decode cL_law 451 = .ok (.iinc 6 1, 3) := by decide +kernel
theorem dL_law_454 : decode cL_law 454 = .ok (.goto (-355), 3) := by decide +kernel
theorem dL_law_457 : decode cL_law 457 = .ok (.aload_n 2, 1) := by decide +kernel
theorem dL_law_458 : decode cL_law 458 = .ok (.iload_n 3, 1) := by decide +kernel
theorem dL_law_459 : decode cL_law 459 = .ok (.aload_n 1, 1) := by decide +kernel
theorem dL_law_460 : decode cL_law 460 = .ok (.invokestatic 102, 3) := by decide +kernel
theorem dL_law_463 : decode cL_law 463 = .ok (.lastore, 1) := by decide +kernel
theorem dL_law_464 : decode cL_law 464 = .ok (.aload_n 1, 1) := by decide +kernel
theorem dL_law_465 : decode cL_law 465 = .ok (.invokestatic 117, 3) := by decide +kernel
theorem dL_law_468 : decode cL_law 468 = .ok (.ifCond .ne 5, 3) := by decide +kernel
theorem dL_law_471 : decode cL_law 471 = .ok (.iconst 0, 1) := by decide +kernel
theorem dL_law_472 : decode cL_law 472 = .ok (.ireturn, 1) := by decide +kernel
theorem dL_law_473 : decode cL_law 473 = .ok (.iconst 0, 1) := by decide +kernel
theorem dL_law_474 : decode cL_law 474 = .ok (.istore 6, 2) := by decide +kernel
theorem dL_law_476 : decode cL_law 476 = .ok (.aload_n 1, 1) := by decide +kernel
theorem dL_law_477 : decode cL_law 477 = .ok (.bipush 8, 2) := by decide +kernel
theorem dL_law_479 : decode cL_law 479 = .ok (.invokevirtual 61, 3) := by decide +kernel
theorem dL_law_482 : decode cL_law 482 = .ok (.ifCond .le 56, 3) := by decide +kernel
theorem dL_law_485 : decode cL_law 485 = .ok (.iload 6, 2) := by decide +kernel
theorem dL_law_487 : decode cL_law 487 = .ok (.iload_n 3, 1) := by decide +kernel
theorem dL_law_488 : decode cL_law 488 = .ok (.if_icmp .ge 50, 3) := by decide +kernel
theorem dL_law_491 : decode cL_law 491 = .ok (.aload_n 1, 1) := by decide +kernel
theorem dL_law_492 : decode cL_law 492 = .ok (.bipush 8, 2) := by decide +kernel
theorem dL_law_494 : decode cL_law 494 = .ok (.invokevirtual 61, 3) := by decide +kernel
theorem dL_law_497 : decode cL_law 497 = .ok (.istore 7, 2) := by decide +kernel
theorem dL_law_499 : decode cL_law 499 = .ok (.iload 6, 2) := by decide +kernel
theorem dL_law_501 : decode cL_law 501 = .ok (.iconst 5, 1) := by decide +kernel
theorem dL_law_502 : decode cL_law 502 = .ok (.if_icmp .gt 28, 3) := by decide +kernel
theorem dL_law_505 : decode cL_law 505 = .ok (.aload_n 1, 1) := by decide +kernel
theorem dL_law_506 : decode cL_law 506 = .ok (.invokestatic 102, 3) := by decide +kernel
theorem dL_law_509 : decode cL_law 509 = .ok (.aload_n 2, 1) := by decide +kernel
theorem dL_law_510 : decode cL_law 510 = .ok (.iload_n 3, 1) := by decide +kernel
theorem dL_law_511 : decode cL_law 511 = .ok (.iload 6, 2) := by decide +kernel
theorem dL_law_513 : decode cL_law 513 = .ok (.isub, 1) := by decide +kernel
theorem dL_law_514 : decode cL_law 514 = .ok (.laload, 1) := by decide +kernel
theorem dL_law_515 : decode cL_law 515 = .ok (.lcmp, 1) := by decide +kernel
theorem dL_law_516 : decode cL_law 516 = .ok (.ifCond .ne 14, 3) := by decide +kernel
theorem dL_law_519 : decode cL_law 519 = .ok (.aload_n 1, 1) := by decide +kernel
theorem dL_law_520 : decode cL_law 520 = .ok (.invokevirtual 46, 3) := by decide +kernel
theorem dL_law_523 : decode cL_law 523 = .ok (.iload 7, 2) := by decide +kernel
theorem dL_law_525 : decode cL_law 525 = .ok (.iconst 1, 1) := by decide +kernel
theorem dL_law_526 : decode cL_law 526 = .ok (.isub, 1) := by decide +kernel
theorem dL_law_527 : decode cL_law 527 = .ok (.if_icmp .eq 5, 3) := by decide +kernel
theorem dL_law_530 : decode cL_law 530 = .ok (.iconst 0, 1) := by decide +kernel
theorem dL_law_531 : decode cL_law 531 = .ok (.ireturn, 1) := by decide +kernel
theorem dL_law_532 : decode cL_law 532 = .ok (.iinc 6 1, 3) := by decide +kernel
theorem dL_law_535 : decode cL_law 535 = .ok (.goto (-59), 3) := by decide +kernel
theorem dL_law_538 : decode cL_law 538 = .ok (.iconst 0, 1) := by decide +kernel
theorem dL_law_539 : decode cL_law 539 = .ok (.istore 6, 2) := by decide +kernel
theorem dL_law_541 : decode cL_law 541 = .ok (.iload 6, 2) := by decide +kernel
theorem dL_law_543 : decode cL_law 543 = .ok (.bipush 6, 2) := by decide +kernel
theorem dL_law_545 : decode cL_law 545 = .ok (.if_icmp .ge 27, 3) := by decide +kernel
theorem dL_law_548 : decode cL_law 548 = .ok (.aload_n 1, 1) := by decide +kernel
theorem dL_law_549 : decode cL_law 549 = .ok (.bipush 8, 2) := by decide +kernel
theorem dL_law_551 : decode cL_law 551 = .ok (.invokevirtual 61, 3) := by decide +kernel
theorem dL_law_554 : decode cL_law 554 = .ok (.ifCond .le 18, 3) := by decide +kernel
theorem dL_law_557 : decode cL_law 557 = .ok (.aload_n 1, 1) := by decide +kernel
theorem dL_law_558 : decode cL_law 558 = .ok (.invokevirtual 46, 3) := by decide +kernel
theorem dL_law_561 : decode cL_law 561 = .ok (.ifCond .ge 5, 3) := by decide +kernel
theorem dL_law_564 : decode cL_law 564 = .ok (.iconst 0, 1) := by decide +kernel
theorem dL_law_565 : decode cL_law 565 = .ok (.ireturn, 1) := by decide +kernel
theorem dL_law_566 : decode cL_law 566 = .ok (.iinc 6 1, 3) := by decide +kernel
theorem dL_law_569 : decode cL_law 569 = .ok (.goto (-28), 3) := by decide +kernel
theorem dL_law_572 : decode cL_law 572 = .ok (.aload_n 1, 1) := by decide +kernel
theorem dL_law_573 : decode cL_law 573 = .ok (.bipush 10, 2) := by decide +kernel
theorem dL_law_575 : decode cL_law 575 = .ok (.iconst 0, 1) := by decide +kernel
theorem dL_law_576 : decode cL_law 576 = .ok (.iconst 0, 1) := by decide +kernel
theorem dL_law_577 : decode cL_law 577 = .ok (.iconst 0, 1) := by decide +kernel
theorem dL_law_578 : decode cL_law 578 = .ok (.iconst 0, 1) := by decide +kernel
theorem dL_law_579 : decode cL_law 579 = .ok (.invokestatic 97, 3) := by decide +kernel
theorem dL_law_582 : decode cL_law 582 = .ok (.bipush (-13), 2) := by decide +kernel
theorem dL_law_584 : decode cL_law 584 = .ok (.if_icmp .ne 36, 3) := by decide +kernel
theorem dL_law_587 : decode cL_law 587 = .ok (.aload_n 1, 1) := by decide +kernel
theorem dL_law_588 : decode cL_law 588 = .ok (.iconst 1, 1) := by decide +kernel
theorem dL_law_589 : decode cL_law 589 = .ok (.invokevirtual 43, 3) := by decide +kernel
theorem dL_law_592 : decode cL_law 592 = .ok (.iconst 4, 1) := by decide +kernel
theorem dL_law_593 : decode cL_law 593 = .ok (.if_icmp .ne 27, 3) := by decide +kernel
theorem dL_law_596 : decode cL_law 596 = .ok (.aload_n 1, 1) := by decide +kernel
theorem dL_law_597 : decode cL_law 597 = .ok (.invokestatic 102, 3) := by decide +kernel
theorem dL_law_600 : decode cL_law 600 = .ok (.lload 4, 2) := by decide +kernel
theorem dL_law_602 : decode cL_law 602 = .ok (.lcmp, 1) := by decide +kernel
theorem dL_law_603 : decode cL_law 603 = .ok (.ifCond .ne 17, 3) := by decide +kernel
theorem dL_law_606 : decode cL_law 606 = .ok (.aload_n 1, 1) := by decide +kernel
theorem dL_law_607 : decode cL_law 607 = .ok (.bipush 8, 2) := by decide +kernel
theorem dL_law_609 : decode cL_law 609 = .ok (.invokevirtual 61, 3) := by decide +kernel
theorem dL_law_612 : decode cL_law 612 = .ok (.iconst 1, 1) := by decide +kernel
theorem dL_law_613 : decode cL_law 613 = .ok (.if_icmp .ne 7, 3) := by decide +kernel
theorem dL_law_616 : decode cL_law 616 = .ok (.iconst 1, 1) := by decide +kernel
theorem dL_law_617 : decode cL_law 617 = .ok (.goto 4, 3) := by decide +kernel
theorem dL_law_620 : decode cL_law 620 = .ok (.iconst 0, 1) := by decide +kernel
theorem dL_law_621 : decode cL_law 621 = .ok (.ireturn, 1) := by decide +kernel
end
section

/-! the world: cells at base + id, whose numbers are one function of id and place -/
abbrev Sg : Type := Nat → Int → Int
abbrev FK : Type := Bool ⊕ Option Nat
abbrev Ob : Type := (Nat × List FK) ⊕ (Nat ⊕ (Nat ⊕ (Nat × (Nat → Option Nat))))
abbrev GT : Type := Nat × va_G × (Nat × Nat × (Nat × Nat))
def I (z : Int) : Value := .int (Int32.ofInt z)
def Lg (z : Int) : Value := .long (Int64.ofInt z)
def Rf (G : GT) (a : Nat) : Value := .ref (G.1 + a)
def cvF (B : Nat) (fk : FK) (z : Int) : Value := match fk with
  | .inl false => .int (Int32.ofInt z)
  | .inl true => .long (Int64.ofInt z)
  | .inr none => .null
  | .inr (some k) => .ref (B + k)
def ent (G : GT) (f : Int → Int) (o : Ob) : va_E := match o with
  | .inl (ci, fks) => .inr (ci, fks.mapIdx (fun j fk => cvF G.1 fk (f (j : Int))))
  | .inr (.inl n) => .inl (G.2.2.1, n, .inl (fun j => Int32.ofInt (f (j : Int))))
  | .inr (.inr (.inl n)) => .inl (G.2.2.2.1, n, .inr (.inl (fun j => Int64.ofInt (f (j : Int)))))
  | .inr (.inr (.inr (n, g))) => .inl (G.2.2.2.2.1, n, .inr (.inr (.inr (.inr (fun j => (g j).map (fun k => G.1 + k))))))
def wl (G : GT) (sh : List Ob) (σ : Sg) : va_W := sh.mapIdx (fun a o => (G.1 + a, ent G (σ a) o))
abbrev tysG (G : GT) : List (ClassId × FieldType) := [(G.2.2.1, .int), (G.2.2.2.1, .long), (G.2.2.2.2.1, .object "LeastRows$State")]
def up (σ : Sg) (a : Nat) (i : Int) (z : Int) : Sg := fun b j => if b = a then (if j = i then z else σ b j) else σ b j
theorem up_ne {σ : Sg} {a b : Nat} {i z : Int} (h : b ≠ a) : up σ a i z b = σ b := by funext j; simp [up, h]
theorem up_eq {σ : Sg} {a : Nat} {i z : Int} : up σ a i z a i = z := by simp [up]
theorem up_nj {σ : Sg} {a : Nat} {i j z : Int} (h : j ≠ i) : up σ a i z a j = σ a j := by simp [up, h]
theorem up_at {σ : Sg} {a : Nat} {i z j : Int} : up σ a i z a j = if j = i then z else σ a j := by simp [up]
theorem wl_get {G : GT} {sh : List Ob} {σ : Sg} {a : Nat} {o : Ob} (h : sh[a]? = some o) : (wl G sh σ)[a]? = some (G.1 + a, ent G (σ a) o) := by
  simp [wl, List.getElem?_mapIdx, h]
theorem wl_some {G : GT} {sh : List Ob} {σ : Sg} {a : Nat} {q : Nat × va_E} (h : (wl G sh σ)[a]? = some q) : ∃ o, sh[a]? = some o ∧ q = (G.1 + a, ent G (σ a) o) := by
  simp only [wl, List.getElem?_mapIdx, Option.map_eq_some_iff] at h
  obtain ⟨o, h1, h2⟩ := h
  exact ⟨o, h1, h2.symm⟩
def Aq (G : GT) : Nat → Prop := fun q => G.1 - G.2.2.2.2.2 ≤ q
theorem Aq_in {G : GT} {a : Nat} : Aq G (G.1 + a) := Nat.le_trans (Nat.sub_le _ _) (Nat.le_add_right _ _)
theorem wl_D {G : GT} {sh : List Ob} {σ : Sg} : va_D (Aq G) (wl G sh σ) := by
  refine ⟨fun i j p q hi hj hpq => ?_, fun k q hk => ?_⟩
  · obtain ⟨o, -, rfl⟩ := wl_some hi
    obtain ⟨o', -, rfl⟩ := wl_some hj
    exact Nat.add_left_cancel hpq
  · obtain ⟨o, -, rfl⟩ := wl_some hk
    exact Nat.le_add_right _ _
theorem wl_set {G : GT} {sh : List Ob} {σ σ' : Sg} {a : Nat} {o o' : Ob} (h : sh[a]? = some o) (hσ : ∀ b, b ≠ a → σ' b = σ b) : (wl G sh σ).set a (G.1 + a, ent G (σ' a) o') = wl G (sh.set a o') σ' := by
  have hl := (List.getElem?_eq_some_iff.mp h).1
  apply List.ext_getElem?
  intro k
  by_cases hk : k = a
  · subst hk
    rw [List.getElem?_set_self (by simpa [wl] using hl)]
    rw [wl_get (List.getElem?_set_self hl)]
  · rw [List.getElem?_set_ne (Ne.symm hk)]
    simp only [wl, List.getElem?_mapIdx, List.getElem?_set_ne (Ne.symm hk), hσ k hk]
theorem set_same {sh : List Ob} {a : Nat} {o : Ob} (h : sh[a]? = some o) : sh.set a o = sh := by
  apply List.ext_getElem?
  intro k
  by_cases hk : k = a
  · subst hk
    rw [List.getElem?_set_self (List.getElem?_eq_some_iff.mp h).1, h]
  · rw [List.getElem?_set_ne (Ne.symm hk)]
theorem wl_set0 {G : GT} {sh : List Ob} {σ σ' : Sg} {a : Nat} {o : Ob} (h : sh[a]? = some o) (hσ : ∀ b, b ≠ a → σ' b = σ b) : (wl G sh σ).set a (G.1 + a, ent G (σ' a) o) = wl G sh σ' := by
  rw [wl_set h hσ, set_same h]
theorem wl_push {G : GT} {sh : List Ob} {σ : Sg} {o : Ob} {q : Nat} (hq : q = G.1 + sh.length) : wl G sh σ ++ [(q, ent G (σ sh.length) o)] = wl G (sh ++ [o]) σ := by
  subst hq
  simp [wl, List.mapIdx_append]
def Tb (G : GT) (s : State) : Prop := va_K G.2.1 vwCl (tysG G) s ∧ (∀ w ∈ TBG, w.before #[] s = true) ∧ (∀ w ∈ NWL, va_Nw w s) ∧ G.1 - G.2.2.2.2.2 ≤ s.heap.size
def Hw (G : GT) (ex : Bool) (sh : List Ob) (σ : Sg) (H : Heap) : Prop := va_P G.2.1 vwCl (wl G sh σ) H ∧ (ex = true → H.size = G.1 + sh.length)
abbrev MI : Type := MethodName × ByteArray × Nat × Option FieldType
def rmD (d mc ms : Nat) : Room := { frames := d, cells := mc, slots := ms, locals := 40 * d }
def Qn (G : GT) (ex : Bool) (sh : List Ob) (Post : Option Value → Sg → Prop) : Array Value → State → Outcome → State → Prop := fun _ st oc t =>
  (∃ (r : Option Value) (σ' : Sg), oc = .returned r ∧ Post r σ' ∧ Hw G ex sh σ' t.heap) ∧ va_F (Aq G) st t
def Pn (G : GT) (ex : Bool) (sh : List Ob) (args : List Value) (σ : Sg) : Array Value → State → Prop := fun a U => a = args.toArray ∧ Tb G U ∧ Hw G ex sh σ U.heap
def Ct (G : GT) (M : MI) (d mc ms : Nat) (ex : Bool) (sh sh' : List Ob) (args : List Value) (σ : Sg) (Post : Option Value → Sg → Prop) : Prop :=
  ∀ l : Launch, Met l M.1 [Cond.code M.1 M.2.1 M.2.2.1 M.2.2.2] (rmD d mc ms) (Pn G ex sh args σ) (Qn G ex sh' Post) mc ms (Aq G)
abbrev ET : Type := Launch → State → Array Value → Code → Prop
abbrev ZT : Type := List Frame → Array Value → State → State → Prop
def Fx (G : GT) (M : MI) (E : ET) (ex : Bool) (sh : List Ob) (σ : Sg) (lv : List (Nat × Value)) (p : Program) (l : Launch) (s : State) (m : MethodId) (args : Array Value) (meth : Method) (c : Code) (H : Heap) (locs : List Loc) (ls : Array Slot) : Prop :=
  p.tables.exec = Jvm.exec ∧ c.code = M.2.1 ∧ c.maxLocals = M.2.2.1 ∧ meth.sig.returnType = M.2.2.2 ∧ s.vm.findClass M.1.cls = some m.cls ∧ (∀ w ∈ TBG, w.before args s = true) ∧ Tb G s ∧ Hw G ex sh σ H ∧ va_S (Aq G) s.heap H locs ∧ lv_has ls M.2.2.1 lv ∧ meth.locks = false ∧ meth.name = M.1.name ∧ E l s args c
def Rn (G : GT) (M : MI) (R : Room) (E : ET) (Z : ZT) (ex : Bool) (sh : List Ob) (k n : Nat) (pc : Nat) (lv : List (Nat × Value)) (st : List Value) (σ : Sg) : Prop :=
  ∀ (p : Program) (l : Launch) (e : Env) (s : State) (m : MethodId) (args : Array Value) (below : List Frame) (meth : Method) (c : Code) (H : Heap) (locs : List Loc) (ls : Array Slot),
    Fx G M E ex sh σ lv p l s m args meth c H locs ls → W p l e R s m args below meth c H locs k n (Z below args s) (F0 m pc ls st)
/-! numbers -/
theorem oI {z : Int} (h1 : -2147483648 ≤ z) (h2 : z ≤ 2147483647) : (Int32.ofInt z).toInt = z := Int32.toInt_ofInt_of_le (by omega) (by omega)
theorem oI_lt {x y : Int} (h : -2147483648 ≤ x ∧ x ≤ 2147483647 ∧ -2147483648 ≤ y ∧ y ≤ 2147483647) : Int32.ofInt x < Int32.ofInt y ↔ x < y := by
  rw [Int32.lt_iff_toInt_lt, oI h.1 h.2.1, oI h.2.2.1 h.2.2.2]
theorem oI_le {x y : Int} (h : -2147483648 ≤ x ∧ x ≤ 2147483647 ∧ -2147483648 ≤ y ∧ y ≤ 2147483647) : Int32.ofInt x ≤ Int32.ofInt y ↔ x ≤ y := by
  rw [Int32.le_iff_toInt_le, oI h.1 h.2.1, oI h.2.2.1 h.2.2.2]
theorem oI_eq {x y : Int} (h : -2147483648 ≤ x ∧ x ≤ 2147483647 ∧ -2147483648 ≤ y ∧ y ≤ 2147483647) : Int32.ofInt x = Int32.ofInt y ↔ x = y := by
  rw [← Int32.toInt_inj, oI h.1 h.2.1, oI h.2.2.1 h.2.2.2]
theorem oI_0 : (0 : Int32) = Int32.ofInt 0 := rfl
theorem oI_nat {z : Int} (h1 : 0 ≤ z) (h2 : z ≤ 2147483647) : ((Int32.ofInt z).toNatClampNeg : Int) = z := by
  rw [Int32.toNatClampNeg_ofInt_of_le (by omega) (by omega)]
  omega
theorem oI_in {z : Int} {n : Nat} (h : 0 ≤ z ∧ z < (n : Int) ∧ (n : Int) ≤ 2147483647) : vp_in (Int32.ofInt z) n := by
  have h1 := oI_nat h.1 (by omega)
  rintro (q | q)
  · rw [oI_0, oI_lt (by omega)] at q
    omega
  · omega
/-! locals -/
def lins (i : Nat) (v : Value) : List (Nat × Value) → List (Nat × Value)
  | [] => [(i, v)]
  | q :: t => bif Nat.ble i q.1 then (i, v) :: q :: t else q :: lins i v t
theorem lins_mem {i : Nat} {v : Value} {q : Nat × Value} : ∀ {l : List (Nat × Value)}, q ∈ lins i v l → q ∈ (i, v) :: l
  | [], h => h
  | a :: t, h => by
    unfold lins at h
    cases hb : Nat.ble i a.1 with
    | true => rw [hb] at h; exact h
    | false =>
      rw [hb] at h
      rcases List.mem_cons.mp h with e | h
      · exact List.mem_cons_of_mem _ (by rw [e]; exact List.mem_cons_self)
      · rcases List.mem_cons.mp (lins_mem h) with e | h
        · exact by rw [e]; exact List.mem_cons_self
        · exact List.mem_cons_of_mem _ (List.mem_cons_of_mem _ h)
theorem lv_ins {ls : Array Slot} {nL i : Nat} {v : Value} {F lv' : List (Nat × Value)} (h : lv_has ls nL ((i, v) :: F)) (hl : lins i v F = lv') : lv_has ls nL lv' :=
  ⟨h.1, h.2.1, fun q hq => h.2.2 q (lins_mem (by rw [hl]; exact hq))⟩
theorem lkp_mem {i : Nat} {v : Value} : ∀ {lv : List (Nat × Value)}, lv.lookup i = some v → (i, v) ∈ lv
  | [], h => by simp at h
  | (j, w) :: t, h => by
    by_cases hj : i = j
    · subst hj
      simp at h
      subst h
      exact List.mem_cons_self
    · have hb : (i == j) = false := by simpa using hj
      rw [List.lookup_cons, hb] at h
      exact List.mem_cons_of_mem _ (lkp_mem h)
theorem lkp {ls : Array Slot} {nL i : Nat} {v : Value} {lv : List (Nat × Value)} (h : lv_has ls nL lv) (hl : lv.lookup i = some v) : ls[i]? = some (.val v) := h.2.2 (i, v) (lkp_mem hl)
theorem Fx.lv {G : GT} {M : MI} {E : ET} {ex : Bool} {sh : List Ob} {σ : Sg} {lv lv' : List (Nat × Value)} {p : Program} {l : Launch} {s : State} {m : MethodId} {args : Array Value} {meth : Method} {c : Code} {H : Heap} {locs : List Loc} {ls ls' : Array Slot}
    (F : Fx G M E ex sh σ lv p l s m args meth c H locs ls) (h : lv_has ls' M.2.2.1 lv') : Fx G M E ex sh σ lv' p l s m args meth c H locs ls' := by
  obtain ⟨a1, a2, a3, a4, a5, a6, a7, a8, a9, a10, a11⟩ := F
  exact ⟨a1, a2, a3, a4, a5, a6, a7, a8, a9, h, a11⟩
theorem Fx.hp {G : GT} {M : MI} {E : ET} {ex : Bool} {sh sh' : List Ob} {σ σ' : Sg} {lv : List (Nat × Value)} {p : Program} {l : Launch} {s : State} {m : MethodId} {args : Array Value} {meth : Method} {c : Code} {H H' : Heap} {locs locs' : List Loc} {ls : Array Slot}
    (F : Fx G M E ex sh σ lv p l s m args meth c H locs ls) (h : Hw G ex sh' σ' H') (h2 : va_S (Aq G) s.heap H' locs') : Fx G M E ex sh' σ' lv p l s m args meth c H' locs' ls := by
  obtain ⟨a1, a2, a3, a4, a5, a6, a7, a8, a9, a10, a11⟩ := F
  exact ⟨a1, a2, a3, a4, a5, a6, a7, h, h2, a10, a11⟩
theorem Fx.wd {G : GT} {M : MI} {E : ET} {ex : Bool} {sh : List Ob} {σ : Sg} {lv : List (Nat × Value)} {p : Program} {l : Launch} {s : State} {m : MethodId} {args : Array Value} {meth : Method} {c : Code} {H : Heap} {locs : List Loc} {ls : Array Slot}
    (F : Fx G M E ex sh σ lv p l s m args meth c H locs ls) : ∀ w ∈ TBG, w.before args s = true := F.2.2.2.2.2.1
theorem Fx.own {G : GT} {M : MI} {E : ET} {ex : Bool} {sh : List Ob} {σ : Sg} {lv : List (Nat × Value)} {p : Program} {l : Launch} {s : State} {m : MethodId} {args : Array Value} {meth : Method} {c : Code} {H : Heap} {locs : List Loc} {ls : Array Slot}
    (F : Fx G M E ex sh σ lv p l s m args meth c H locs ls) : s.vm.findClass M.1.cls = some m.cls := F.2.2.2.2.1
theorem Fx.tb {G : GT} {M : MI} {E : ET} {ex : Bool} {sh : List Ob} {σ : Sg} {lv : List (Nat × Value)} {p : Program} {l : Launch} {s : State} {m : MethodId} {args : Array Value} {meth : Method} {c : Code} {H : Heap} {locs : List Loc} {ls : Array Slot}
    (F : Fx G M E ex sh σ lv p l s m args meth c H locs ls) : Tb G s := F.2.2.2.2.2.2.1
theorem Fx.hw {G : GT} {M : MI} {E : ET} {ex : Bool} {sh : List Ob} {σ : Sg} {lv : List (Nat × Value)} {p : Program} {l : Launch} {s : State} {m : MethodId} {args : Array Value} {meth : Method} {c : Code} {H : Heap} {locs : List Loc} {ls : Array Slot}
    (F : Fx G M E ex sh σ lv p l s m args meth c H locs ls) : Hw G ex sh σ H := F.2.2.2.2.2.2.2.1
theorem Fx.fs {G : GT} {M : MI} {E : ET} {ex : Bool} {sh : List Ob} {σ : Sg} {lv : List (Nat × Value)} {p : Program} {l : Launch} {s : State} {m : MethodId} {args : Array Value} {meth : Method} {c : Code} {H : Heap} {locs : List Loc} {ls : Array Slot}
    (F : Fx G M E ex sh σ lv p l s m args meth c H locs ls) : va_S (Aq G) s.heap H locs := F.2.2.2.2.2.2.2.2.1
theorem Fx.hl {G : GT} {M : MI} {E : ET} {ex : Bool} {sh : List Ob} {σ : Sg} {lv : List (Nat × Value)} {p : Program} {l : Launch} {s : State} {m : MethodId} {args : Array Value} {meth : Method} {c : Code} {H : Heap} {locs : List Loc} {ls : Array Slot}
    (F : Fx G M E ex sh σ lv p l s m args meth c H locs ls) : lv_has ls M.2.2.1 lv := F.2.2.2.2.2.2.2.2.2.1
theorem Fx.lk {G : GT} {M : MI} {E : ET} {ex : Bool} {sh : List Ob} {σ : Sg} {lv : List (Nat × Value)} {p : Program} {l : Launch} {s : State} {m : MethodId} {args : Array Value} {meth : Method} {c : Code} {H : Heap} {locs : List Loc} {ls : Array Slot}
    (F : Fx G M E ex sh σ lv p l s m args meth c H locs ls) : meth.locks = false := F.2.2.2.2.2.2.2.2.2.2.1
section ROWS
variable {G : GT} {M : MI} {R : Room} {E : ET} {Z : ZT} {ex : Bool} {sh : List Ob} {k n : Nat} {pc : Nat} {lv lv' : List (Nat × Value)} {st : List Value} {σ : Sg}

theorem r_iconst {z : Int} (hdg : decode M.2.1 pc = .ok (.iconst z, 1))  (kk : Rn G M R E Z ex sh k n (pc + 1) lv (I z :: st) σ) : Rn G M R E Z ex sh k n pc lv st σ := fun p l e s m args below meth c H locs ls F => lv_iconst F.1 F.2.1 hdg rfl  (kk p l e s m args below meth c H locs ls F)
theorem r_bipush {z : Int} (hdg : decode M.2.1 pc = .ok (.bipush z, 2)) (hv : (Int8.ofInt z).toInt32 = Int32.ofInt z) (kk : Rn G M R E Z ex sh k n (pc + 2) lv (I z :: st) σ) : Rn G M R E Z ex sh k n pc lv st σ := fun p l e s m args below meth c H locs ls F => lv_bipush F.1 F.2.1 hdg hv (kk p l e s m args below meth c H locs ls F)
theorem r_sipush {z : Int} (hdg : decode M.2.1 pc = .ok (.sipush z, 3)) (hv : (Int16.ofInt z).toInt32 = Int32.ofInt z) (kk : Rn G M R E Z ex sh k n (pc + 3) lv (I z :: st) σ) : Rn G M R E Z ex sh k n pc lv st σ := fun p l e s m args below meth c H locs ls F => lv_sipush F.1 F.2.1 hdg hv (kk p l e s m args below meth c H locs ls F)
theorem r_lconst {q : Fin 2} {z : Int} (hdg : decode M.2.1 pc = .ok (.lconst q, 1)) (hv : Int64.ofNat (q : Nat) = Int64.ofInt z) (kk : Rn G M R E Z ex sh k n (pc + 1) lv (Lg z :: st) σ) : Rn G M R E Z ex sh k n pc lv st σ := fun p l e s m args below meth c H locs ls F => lv_lconst F.1 F.2.1 hdg hv (kk p l e s m args below meth c H locs ls F)
theorem r_dconst0  (hdg : decode M.2.1 pc = .ok (.dconst 0, 1))  (kk : Rn G M R E Z ex sh k n (pc + 1) lv (Value.double FP.dconst0 :: st) σ) : Rn G M R E Z ex sh k n pc lv st σ := fun p l e s m args below meth c H locs ls F => lv_dconst0 F.1 F.2.1 hdg  (kk p l e s m args below meth c H locs ls F)
theorem r_dconst1  (hdg : decode M.2.1 pc = .ok (.dconst 1, 1))  (kk : Rn G M R E Z ex sh k n (pc + 1) lv (Value.double FP.dconst1 :: st) σ) : Rn G M R E Z ex sh k n pc lv st σ := fun p l e s m args below meth c H locs ls F => lv_dconst1 F.1 F.2.1 hdg  (kk p l e s m args below meth c H locs ls F)
theorem r_ldc {z : Int} {idx : Nat} (hdg : decode M.2.1 pc = .ok (.ldc idx, 2)) (hw : Cond.constant M.1.cls idx (Int32.ofInt z) ∈ TBG) (kk : Rn G M R E Z ex sh k n (pc + 2) lv (I z :: st) σ) : Rn G M R E Z ex sh k n pc lv st σ := fun p l e s m args below meth c H locs ls F => lv_ldc F.1 F.2.1 F.own (F.wd _ hw) hdg (kk p l e s m args below meth c H locs ls F)
theorem r_ldc2 {z : Int} {idx : Nat} (hdg : decode M.2.1 pc = .ok (.ldc2_w idx, 3)) (hw : Cond.constantLong M.1.cls idx (Int64.ofInt z) ∈ TBG) (kk : Rn G M R E Z ex sh k n (pc + 3) lv (Lg z :: st) σ) : Rn G M R E Z ex sh k n pc lv st σ := fun p l e s m args below meth c H locs ls F => lv_ldc2 F.1 F.2.1 F.own (F.wd _ hw) hdg (kk p l e s m args below meth c H locs ls F)
theorem r_ldc2d {z : UInt64} {idx : Nat} (hdg : decode M.2.1 pc = .ok (.ldc2_w idx, 3)) (hw : Cond.constantDouble M.1.cls idx z ∈ TBG) (kk : Rn G M R E Z ex sh k n (pc + 3) lv (.double z :: st) σ) : Rn G M R E Z ex sh k n pc lv st σ := fun p l e s m args below meth c H locs ls F => lv_ldc2d F.1 F.2.1 F.own (F.wd _ hw) hdg (kk p l e s m args below meth c H locs ls F)
theorem r_iload_n {q : Fin 4} {i : Nat} {x : Int} (hdg : decode M.2.1 pc = .ok (.iload_n q, 1)) (hi : (q : Nat) = i) (hl : lv.lookup i = some (I x)) (kk : Rn G M R E Z ex sh k n (pc + 1) lv (I x :: st) σ) : Rn G M R E Z ex sh k n pc lv st σ := fun p l e s m args below meth c H locs ls F => lv_iload_n F.1 F.2.1 hdg hi (lkp F.hl hl) (kk p l e s m args below meth c H locs ls F)
theorem r_iload {i : Nat} {x : Int} (hdg : decode M.2.1 pc = .ok (.iload i, 2)) (hl : lv.lookup i = some (I x)) (kk : Rn G M R E Z ex sh k n (pc + 2) lv (I x :: st) σ) : Rn G M R E Z ex sh k n pc lv st σ := fun p l e s m args below meth c H locs ls F => lv_iload F.1 F.2.1 hdg (lkp F.hl hl) (kk p l e s m args below meth c H locs ls F)
theorem r_istore_n {q : Fin 4} {i : Nat} {x : Int} (hdg : decode M.2.1 pc = .ok (.istore_n q, 1)) (hi : (q : Nat) = i) (hn : i < M.2.2.1) (hl : lins i (I x) (lv.filter (fun q => !(q.1 == i) && !(q.1 + 1 == i && q.2.category == 2))) = lv') (kk : Rn G M R E Z ex sh k n (pc + 1) lv' st σ) : Rn G M R E Z ex sh k n pc lv ((I x) :: st) σ := fun p l e s m args below meth c H locs ls F => lv_istore_n F.1 F.2.1 hdg hi F.hl hn rfl (fun ls' h => kk p l e s m args below meth c H locs ls' (F.lv (lv_ins h hl)))
theorem r_istore {i : Nat} {x : Int} (hdg : decode M.2.1 pc = .ok (.istore i, 2)) (hn : i < M.2.2.1) (hl : lins i (I x) (lv.filter (fun q => !(q.1 == i) && !(q.1 + 1 == i && q.2.category == 2))) = lv') (kk : Rn G M R E Z ex sh k n (pc + 2) lv' st σ) : Rn G M R E Z ex sh k n pc lv ((I x) :: st) σ := fun p l e s m args below meth c H locs ls F => lv_istore F.1 F.2.1 hdg F.hl hn rfl (fun ls' h => kk p l e s m args below meth c H locs ls' (F.lv (lv_ins h hl)))
theorem r_aload_n {q : Fin 4} {i : Nat} {x : Nat} (hdg : decode M.2.1 pc = .ok (.aload_n q, 1)) (hi : (q : Nat) = i) (hl : lv.lookup i = some (Rf G x)) (kk : Rn G M R E Z ex sh k n (pc + 1) lv (Rf G x :: st) σ) : Rn G M R E Z ex sh k n pc lv st σ := fun p l e s m args below meth c H locs ls F => lv_aload_n F.1 F.2.1 hdg hi (lkp F.hl hl) (kk p l e s m args below meth c H locs ls F)
theorem r_aload {i : Nat} {x : Nat} (hdg : decode M.2.1 pc = .ok (.aload i, 2)) (hl : lv.lookup i = some (Rf G x)) (kk : Rn G M R E Z ex sh k n (pc + 2) lv (Rf G x :: st) σ) : Rn G M R E Z ex sh k n pc lv st σ := fun p l e s m args below meth c H locs ls F => lv_aload F.1 F.2.1 hdg (lkp F.hl hl) (kk p l e s m args below meth c H locs ls F)
theorem r_astore_n {q : Fin 4} {i : Nat} {x : Nat} (hdg : decode M.2.1 pc = .ok (.astore_n q, 1)) (hi : (q : Nat) = i) (hn : i < M.2.2.1) (hl : lins i (Rf G x) (lv.filter (fun q => !(q.1 == i) && !(q.1 + 1 == i && q.2.category == 2))) = lv') (kk : Rn G M R E Z ex sh k n (pc + 1) lv' st σ) : Rn G M R E Z ex sh k n pc lv ((Rf G x) :: st) σ := fun p l e s m args below meth c H locs ls F => lv_astore_n F.1 F.2.1 hdg hi F.hl hn rfl (fun ls' h => kk p l e s m args below meth c H locs ls' (F.lv (lv_ins h hl)))
theorem r_astore {i : Nat} {x : Nat} (hdg : decode M.2.1 pc = .ok (.astore i, 2)) (hn : i < M.2.2.1) (hl : lins i (Rf G x) (lv.filter (fun q => !(q.1 == i) && !(q.1 + 1 == i && q.2.category == 2))) = lv') (kk : Rn G M R E Z ex sh k n (pc + 2) lv' st σ) : Rn G M R E Z ex sh k n pc lv ((Rf G x) :: st) σ := fun p l e s m args below meth c H locs ls F => lv_astore F.1 F.2.1 hdg F.hl hn rfl (fun ls' h => kk p l e s m args below meth c H locs ls' (F.lv (lv_ins h hl)))
theorem r_lload_n {q : Fin 4} {i : Nat} {x : Int} (hdg : decode M.2.1 pc = .ok (.lload_n q, 1)) (hi : (q : Nat) = i) (hl : lv.lookup i = some (Lg x)) (kk : Rn G M R E Z ex sh k n (pc + 1) lv (Lg x :: st) σ) : Rn G M R E Z ex sh k n pc lv st σ := fun p l e s m args below meth c H locs ls F => lv_lload_n F.1 F.2.1 hdg hi (lkp F.hl hl) (kk p l e s m args below meth c H locs ls F)
theorem r_lload {i : Nat} {x : Int} (hdg : decode M.2.1 pc = .ok (.lload i, 2)) (hl : lv.lookup i = some (Lg x)) (kk : Rn G M R E Z ex sh k n (pc + 2) lv (Lg x :: st) σ) : Rn G M R E Z ex sh k n pc lv st σ := fun p l e s m args below meth c H locs ls F => lv_lload F.1 F.2.1 hdg (lkp F.hl hl) (kk p l e s m args below meth c H locs ls F)
theorem r_lstore_n {q : Fin 4} {i : Nat} {x : Int} (hdg : decode M.2.1 pc = .ok (.lstore_n q, 1)) (hi : (q : Nat) = i) (hn : i + 1 < M.2.2.1) (hl : lins i (Lg x) (lv.filter (fun q => !(q.1 == i) && (!(q.1 == i + 1) && !(q.1 + 1 == i && q.2.category == 2)))) = lv') (kk : Rn G M R E Z ex sh k n (pc + 1) lv' st σ) : Rn G M R E Z ex sh k n pc lv ((Lg x) :: st) σ := fun p l e s m args below meth c H locs ls F => lv_lstore_n F.1 F.2.1 hdg hi F.hl hn rfl (fun ls' h => kk p l e s m args below meth c H locs ls' (F.lv (lv_ins h hl)))
theorem r_lstore {i : Nat} {x : Int} (hdg : decode M.2.1 pc = .ok (.lstore i, 2)) (hn : i + 1 < M.2.2.1) (hl : lins i (Lg x) (lv.filter (fun q => !(q.1 == i) && (!(q.1 == i + 1) && !(q.1 + 1 == i && q.2.category == 2)))) = lv') (kk : Rn G M R E Z ex sh k n (pc + 2) lv' st σ) : Rn G M R E Z ex sh k n pc lv ((Lg x) :: st) σ := fun p l e s m args below meth c H locs ls F => lv_lstore F.1 F.2.1 hdg F.hl hn rfl (fun ls' h => kk p l e s m args below meth c H locs ls' (F.lv (lv_ins h hl)))
theorem r_dload_n {q : Fin 4} {i : Nat} {x : UInt64} (hdg : decode M.2.1 pc = .ok (.dload_n q, 1)) (hi : (q : Nat) = i) (hl : lv.lookup i = some (.double x)) (kk : Rn G M R E Z ex sh k n (pc + 1) lv (.double x :: st) σ) : Rn G M R E Z ex sh k n pc lv st σ := fun p l e s m args below meth c H locs ls F => lv_dload_n F.1 F.2.1 hdg hi (lkp F.hl hl) (kk p l e s m args below meth c H locs ls F)
theorem r_dload {i : Nat} {x : UInt64} (hdg : decode M.2.1 pc = .ok (.dload i, 2)) (hl : lv.lookup i = some (.double x)) (kk : Rn G M R E Z ex sh k n (pc + 2) lv (.double x :: st) σ) : Rn G M R E Z ex sh k n pc lv st σ := fun p l e s m args below meth c H locs ls F => lv_dload F.1 F.2.1 hdg (lkp F.hl hl) (kk p l e s m args below meth c H locs ls F)
theorem r_dstore_n {q : Fin 4} {i : Nat} {x : UInt64} (hdg : decode M.2.1 pc = .ok (.dstore_n q, 1)) (hi : (q : Nat) = i) (hn : i + 1 < M.2.2.1) (hl : lins i (.double x) (lv.filter (fun q => !(q.1 == i) && (!(q.1 == i + 1) && !(q.1 + 1 == i && q.2.category == 2)))) = lv') (kk : Rn G M R E Z ex sh k n (pc + 1) lv' st σ) : Rn G M R E Z ex sh k n pc lv ((.double x) :: st) σ := fun p l e s m args below meth c H locs ls F => lv_dstore_n F.1 F.2.1 hdg hi F.hl hn rfl (fun ls' h => kk p l e s m args below meth c H locs ls' (F.lv (lv_ins h hl)))
theorem r_dstore {i : Nat} {x : UInt64} (hdg : decode M.2.1 pc = .ok (.dstore i, 2)) (hn : i + 1 < M.2.2.1) (hl : lins i (.double x) (lv.filter (fun q => !(q.1 == i) && (!(q.1 == i + 1) && !(q.1 + 1 == i && q.2.category == 2)))) = lv') (kk : Rn G M R E Z ex sh k n (pc + 2) lv' st σ) : Rn G M R E Z ex sh k n pc lv ((.double x) :: st) σ := fun p l e s m args below meth c H locs ls F => lv_dstore F.1 F.2.1 hdg F.hl hn rfl (fun ls' h => kk p l e s m args below meth c H locs ls' (F.lv (lv_ins h hl)))

theorem r_iinc {i : Nat} {z x : Int} (hdg : decode M.2.1 pc = .ok (.iinc i z, 3)) (hn : i < M.2.2.1) (hx : lv.lookup i = some (I x)) (hl : lins i (I (x + z)) (lv.filter (fun q => !(q.1 == i) && !(q.1 + 1 == i && q.2.category == 2))) = lv')
    (kk : Rn G M R E Z ex sh k n (pc + 3) lv' st σ) : Rn G M R E Z ex sh k n pc lv st σ := by
  intro p l e s m args below meth c H locs ls F
  obtain ⟨j, hj⟩ := List.getElem?_of_mem (lkp_mem hx)
  exact lv_iinc (v := Int32.ofInt (x + z)) F.1 F.2.1 hdg F.hl (k := j) hj (Int32.ofInt_add x z).symm hn rfl (fun ls' h => kk p l e s m args below meth c H locs ls' (F.lv (lv_ins h hl)))
theorem r_sub (ks : List Nat) (hl : lv_pick lv ks = lv') (kk : Rn G M R E Z ex sh k n pc lv' st σ) : Rn G M R E Z ex sh k n pc lv st σ := fun p l e s m args below meth c H locs ls F => kk p l e s m args below meth c H locs ls (F.lv (lv_sub F.hl ks hl))
theorem r_goto {off : Int} {tgt : Nat} (hdg : decode M.2.1 pc = .ok (.goto off, 3)) (ht : (pc : Int) + off = (tgt : Int)) (kk : Rn G M R E Z ex sh k n tgt lv st σ) : Rn G M R E Z ex sh k n pc lv st σ := fun p l e s m args below meth c H locs ls F => lv_goto F.1 F.2.1 hdg ht (kk p l e s m args below meth c H locs ls F)

theorem r_iadd {x y : Int} (hdg : decode M.2.1 pc = .ok (.iadd, 1)) (kk : Rn G M R E Z ex sh k n (pc + 1) lv (I (x + y) :: st) σ) : Rn G M R E Z ex sh k n pc lv (I y :: I x :: st) σ := fun p l e s m args below meth c H locs ls F => lv_iadd F.1 F.2.1 hdg (by have h := kk p l e s m args below meth c H locs ls F; rwa [I, Int32.ofInt_add] at h)
theorem r_isub {x y : Int} (hdg : decode M.2.1 pc = .ok (.isub, 1)) (kk : Rn G M R E Z ex sh k n (pc + 1) lv (I (x - y) :: st) σ) : Rn G M R E Z ex sh k n pc lv (I y :: I x :: st) σ := fun p l e s m args below meth c H locs ls F => lv_isub F.1 F.2.1 hdg (by have h := kk p l e s m args below meth c H locs ls F; rwa [I, Int32.ofInt_sub] at h)
theorem r_imul {x y : Int} (hdg : decode M.2.1 pc = .ok (.imul, 1)) (kk : Rn G M R E Z ex sh k n (pc + 1) lv (I (x * y) :: st) σ) : Rn G M R E Z ex sh k n pc lv (I y :: I x :: st) σ := fun p l e s m args below meth c H locs ls F => lv_imul F.1 F.2.1 hdg (by have h := kk p l e s m args below meth c H locs ls F; rwa [I, Int32.ofInt_mul] at h)

theorem oI_div {x y : Int} (h : 0 ≤ x ∧ x ≤ 2147483647 ∧ 0 < y ∧ y ≤ 2147483647) : Int32.ofInt x / Int32.ofInt y = Int32.ofInt (x / y) := by
  have hx : (Int32.ofInt x).toInt = x := oI (by omega) (by omega)
  have hy : (Int32.ofInt y).toInt = y := oI (by omega) (by omega)
  have h1 : 0 ≤ x / y := Int.ediv_nonneg h.1 (by omega)
  have h2 : x / y ≤ x := Int.ediv_le_self y h.1
  have hne : Int32.ofInt y ≠ -1 := fun q => by
    have := congrArg Int32.toInt q
    rw [hy, show (-1 : Int32).toInt = -1 from rfl] at this
    omega
  rw [← Int32.toInt_inj, Int32.toInt_div_of_ne_right _ _ hne, hx, hy, oI (by omega) (by omega), Int.tdiv_eq_ediv_of_nonneg h.1]
theorem r_idiv {x y : Int} (hdg : decode M.2.1 pc = .ok (.idiv, 1)) (h : 0 ≤ x ∧ x ≤ 2147483647 ∧ 0 < y ∧ y ≤ 2147483647) (kk : Rn G M R E Z ex sh k n (pc + 1) lv (I (x / y) :: st) σ) : Rn G M R E Z ex sh k n pc lv (I y :: I x :: st) σ := by
  intro p l e s m args below meth c H locs ls F
  refine lv_idiv F.1 F.2.1 hdg (fun q => ?_) ?_
  · rw [oI_0, oI_eq (by omega)] at q
    omega
  · have h9 := kk p l e s m args below meth c H locs ls F
    rwa [I, ← oI_div h] at h9
theorem r_irem {x y : Int} (hdg : decode M.2.1 pc = .ok (.irem, 1)) (h : 0 ≤ x ∧ x ≤ 2147483647 ∧ 0 < y ∧ y ≤ 2147483647) (kk : Rn G M R E Z ex sh k n (pc + 1) lv (I (x % y) :: st) σ) : Rn G M R E Z ex sh k n pc lv (I y :: I x :: st) σ := by
  intro p l e s m args below meth c H locs ls F
  refine lv_irem F.1 F.2.1 hdg (fun q => ?_) ?_
  · rw [oI_0, oI_eq (by omega)] at q
    omega
  · have h9 := kk p l e s m args below meth c H locs ls F
    have e9 : Int32.ofInt (x % y) = Int32.ofInt x - Int32.ofInt x / Int32.ofInt y * Int32.ofInt y := by
      rw [oI_div h, ← Int32.ofInt_mul, ← Int32.ofInt_sub, Int.emod_def, Int.mul_comm]
    rwa [I, e9] at h9

theorem r_icmp_lt {x y : Int} {off : Int} {tgt : Nat} (hdg : decode M.2.1 pc = .ok (.if_icmp .lt off, 3)) (ht : (pc : Int) + off = (tgt : Int)) (h : -2147483648 ≤ x ∧ x ≤ 2147483647 ∧ -2147483648 ≤ y ∧ y ≤ 2147483647)
    (kt : x < y → Rn G M R E Z ex sh k n tgt lv st σ) (kf : ¬ (x < y) → Rn G M R E Z ex sh k n (pc + 3) lv st σ) : Rn G M R E Z ex sh k n pc lv (I y :: I x :: st) σ := by
  intro p l e s m args below meth c H locs ls F
  refine lv_icmp_lt F.1 F.2.1 hdg ht (fun q => ?_) (fun q => ?_)
  · skip
    rw [oI_lt (by omega)] at q
    exact kt (by first | exact q | omega) p l e s m args below meth c H locs ls F
  · skip
    rw [oI_lt (by omega)] at q
    exact kf (by first | exact q | omega) p l e s m args below meth c H locs ls F
theorem r_if_lt {x : Int} {off : Int} {tgt : Nat} (hdg : decode M.2.1 pc = .ok (.ifCond .lt off, 3)) (ht : (pc : Int) + off = (tgt : Int)) (h : -2147483648 ≤ x ∧ x ≤ 2147483647)
    (kt : x < 0 → Rn G M R E Z ex sh k n tgt lv st σ) (kf : ¬ (x < 0) → Rn G M R E Z ex sh k n (pc + 3) lv st σ) : Rn G M R E Z ex sh k n pc lv (I x :: st) σ := by
  intro p l e s m args below meth c H locs ls F
  refine lv_if_lt F.1 F.2.1 hdg ht (fun q => ?_) (fun q => ?_)
  · try rw [oI_0] at q
    rw [oI_lt (by omega)] at q
    exact kt (by first | exact q | omega) p l e s m args below meth c H locs ls F
  · try rw [oI_0] at q
    rw [oI_lt (by omega)] at q
    exact kf (by first | exact q | omega) p l e s m args below meth c H locs ls F
theorem r_icmp_le {x y : Int} {off : Int} {tgt : Nat} (hdg : decode M.2.1 pc = .ok (.if_icmp .le off, 3)) (ht : (pc : Int) + off = (tgt : Int)) (h : -2147483648 ≤ x ∧ x ≤ 2147483647 ∧ -2147483648 ≤ y ∧ y ≤ 2147483647)
    (kt : x ≤ y → Rn G M R E Z ex sh k n tgt lv st σ) (kf : ¬ (x ≤ y) → Rn G M R E Z ex sh k n (pc + 3) lv st σ) : Rn G M R E Z ex sh k n pc lv (I y :: I x :: st) σ := by
  intro p l e s m args below meth c H locs ls F
  refine lv_icmp_le F.1 F.2.1 hdg ht (fun q => ?_) (fun q => ?_)
  · skip
    rw [oI_le (by omega)] at q
    exact kt (by first | exact q | omega) p l e s m args below meth c H locs ls F
  · skip
    rw [oI_le (by omega)] at q
    exact kf (by first | exact q | omega) p l e s m args below meth c H locs ls F
theorem r_if_le {x : Int} {off : Int} {tgt : Nat} (hdg : decode M.2.1 pc = .ok (.ifCond .le off, 3)) (ht : (pc : Int) + off = (tgt : Int)) (h : -2147483648 ≤ x ∧ x ≤ 2147483647)
    (kt : x ≤ 0 → Rn G M R E Z ex sh k n tgt lv st σ) (kf : ¬ (x ≤ 0) → Rn G M R E Z ex sh k n (pc + 3) lv st σ) : Rn G M R E Z ex sh k n pc lv (I x :: st) σ := by
  intro p l e s m args below meth c H locs ls F
  refine lv_if_le F.1 F.2.1 hdg ht (fun q => ?_) (fun q => ?_)
  · try rw [oI_0] at q
    rw [oI_le (by omega)] at q
    exact kt (by first | exact q | omega) p l e s m args below meth c H locs ls F
  · try rw [oI_0] at q
    rw [oI_le (by omega)] at q
    exact kf (by first | exact q | omega) p l e s m args below meth c H locs ls F
theorem r_icmp_eq {x y : Int} {off : Int} {tgt : Nat} (hdg : decode M.2.1 pc = .ok (.if_icmp .eq off, 3)) (ht : (pc : Int) + off = (tgt : Int)) (h : -2147483648 ≤ x ∧ x ≤ 2147483647 ∧ -2147483648 ≤ y ∧ y ≤ 2147483647)
    (kt : x = y → Rn G M R E Z ex sh k n tgt lv st σ) (kf : ¬ (x = y) → Rn G M R E Z ex sh k n (pc + 3) lv st σ) : Rn G M R E Z ex sh k n pc lv (I y :: I x :: st) σ := by
  intro p l e s m args below meth c H locs ls F
  refine lv_icmp_eq F.1 F.2.1 hdg ht (fun q => ?_) (fun q => ?_)
  · skip
    rw [oI_eq (by omega)] at q
    exact kt (by first | exact q | omega) p l e s m args below meth c H locs ls F
  · skip
    rw [oI_eq (by omega)] at q
    exact kf (by first | exact q | omega) p l e s m args below meth c H locs ls F
theorem r_if_eq {x : Int} {off : Int} {tgt : Nat} (hdg : decode M.2.1 pc = .ok (.ifCond .eq off, 3)) (ht : (pc : Int) + off = (tgt : Int)) (h : -2147483648 ≤ x ∧ x ≤ 2147483647)
    (kt : x = 0 → Rn G M R E Z ex sh k n tgt lv st σ) (kf : ¬ (x = 0) → Rn G M R E Z ex sh k n (pc + 3) lv st σ) : Rn G M R E Z ex sh k n pc lv (I x :: st) σ := by
  intro p l e s m args below meth c H locs ls F
  refine lv_if_eq F.1 F.2.1 hdg ht (fun q => ?_) (fun q => ?_)
  · try rw [oI_0] at q
    rw [oI_eq (by omega)] at q
    exact kt (by first | exact q | omega) p l e s m args below meth c H locs ls F
  · try rw [oI_0] at q
    rw [oI_eq (by omega)] at q
    exact kf (by first | exact q | omega) p l e s m args below meth c H locs ls F
theorem r_icmp_gt {x y : Int} {off : Int} {tgt : Nat} (hdg : decode M.2.1 pc = .ok (.if_icmp .gt off, 3)) (ht : (pc : Int) + off = (tgt : Int)) (h : -2147483648 ≤ x ∧ x ≤ 2147483647 ∧ -2147483648 ≤ y ∧ y ≤ 2147483647)
    (kt : y < x → Rn G M R E Z ex sh k n tgt lv st σ) (kf : ¬ (y < x) → Rn G M R E Z ex sh k n (pc + 3) lv st σ) : Rn G M R E Z ex sh k n pc lv (I y :: I x :: st) σ := by
  intro p l e s m args below meth c H locs ls F
  refine lv_icmp_gt F.1 F.2.1 hdg ht (fun q => ?_) (fun q => ?_)
  · skip
    rw [oI_lt (by omega)] at q
    exact kt (by first | exact q | omega) p l e s m args below meth c H locs ls F
  · skip
    rw [oI_lt (by omega)] at q
    exact kf (by first | exact q | omega) p l e s m args below meth c H locs ls F
theorem r_if_gt {x : Int} {off : Int} {tgt : Nat} (hdg : decode M.2.1 pc = .ok (.ifCond .gt off, 3)) (ht : (pc : Int) + off = (tgt : Int)) (h : -2147483648 ≤ x ∧ x ≤ 2147483647)
    (kt : 0 < x → Rn G M R E Z ex sh k n tgt lv st σ) (kf : ¬ (0 < x) → Rn G M R E Z ex sh k n (pc + 3) lv st σ) : Rn G M R E Z ex sh k n pc lv (I x :: st) σ := by
  intro p l e s m args below meth c H locs ls F
  refine lv_if_gt F.1 F.2.1 hdg ht (fun q => ?_) (fun q => ?_)
  · try rw [oI_0] at q
    rw [oI_lt (by omega)] at q
    exact kt (by first | exact q | omega) p l e s m args below meth c H locs ls F
  · try rw [oI_0] at q
    rw [oI_lt (by omega)] at q
    exact kf (by first | exact q | omega) p l e s m args below meth c H locs ls F
theorem r_icmp_ge {x y : Int} {off : Int} {tgt : Nat} (hdg : decode M.2.1 pc = .ok (.if_icmp .ge off, 3)) (ht : (pc : Int) + off = (tgt : Int)) (h : -2147483648 ≤ x ∧ x ≤ 2147483647 ∧ -2147483648 ≤ y ∧ y ≤ 2147483647)
    (kt : y ≤ x → Rn G M R E Z ex sh k n tgt lv st σ) (kf : ¬ (y ≤ x) → Rn G M R E Z ex sh k n (pc + 3) lv st σ) : Rn G M R E Z ex sh k n pc lv (I y :: I x :: st) σ := by
  intro p l e s m args below meth c H locs ls F
  refine lv_icmp_ge F.1 F.2.1 hdg ht (fun q => ?_) (fun q => ?_)
  · skip
    rw [oI_le (by omega)] at q
    exact kt (by first | exact q | omega) p l e s m args below meth c H locs ls F
  · skip
    rw [oI_le (by omega)] at q
    exact kf (by first | exact q | omega) p l e s m args below meth c H locs ls F
theorem r_if_ge {x : Int} {off : Int} {tgt : Nat} (hdg : decode M.2.1 pc = .ok (.ifCond .ge off, 3)) (ht : (pc : Int) + off = (tgt : Int)) (h : -2147483648 ≤ x ∧ x ≤ 2147483647)
    (kt : 0 ≤ x → Rn G M R E Z ex sh k n tgt lv st σ) (kf : ¬ (0 ≤ x) → Rn G M R E Z ex sh k n (pc + 3) lv st σ) : Rn G M R E Z ex sh k n pc lv (I x :: st) σ := by
  intro p l e s m args below meth c H locs ls F
  refine lv_if_ge F.1 F.2.1 hdg ht (fun q => ?_) (fun q => ?_)
  · try rw [oI_0] at q
    rw [oI_le (by omega)] at q
    exact kt (by first | exact q | omega) p l e s m args below meth c H locs ls F
  · try rw [oI_0] at q
    rw [oI_le (by omega)] at q
    exact kf (by first | exact q | omega) p l e s m args below meth c H locs ls F
theorem r_icmp_ne {x y : Int} {off : Int} {tgt : Nat} (hdg : decode M.2.1 pc = .ok (.if_icmp .ne off, 3)) (ht : (pc : Int) + off = (tgt : Int)) (h : -2147483648 ≤ x ∧ x ≤ 2147483647 ∧ -2147483648 ≤ y ∧ y ≤ 2147483647)
    (kt : ¬ x = y → Rn G M R E Z ex sh k n tgt lv st σ) (kf : ¬ (¬ x = y) → Rn G M R E Z ex sh k n (pc + 3) lv st σ) : Rn G M R E Z ex sh k n pc lv (I y :: I x :: st) σ := by
  intro p l e s m args below meth c H locs ls F
  refine lv_icmp_ne F.1 F.2.1 hdg ht (fun q => ?_) (fun q => ?_)
  · skip
    rw [oI_eq (by omega)] at q
    exact kt (by first | exact q | omega) p l e s m args below meth c H locs ls F
  · skip
    rw [oI_eq (by omega)] at q
    exact kf (by first | exact q | omega) p l e s m args below meth c H locs ls F
theorem r_if_ne {x : Int} {off : Int} {tgt : Nat} (hdg : decode M.2.1 pc = .ok (.ifCond .ne off, 3)) (ht : (pc : Int) + off = (tgt : Int)) (h : -2147483648 ≤ x ∧ x ≤ 2147483647)
    (kt : ¬ x = 0 → Rn G M R E Z ex sh k n tgt lv st σ) (kf : ¬ (¬ x = 0) → Rn G M R E Z ex sh k n (pc + 3) lv st σ) : Rn G M R E Z ex sh k n pc lv (I x :: st) σ := by
  intro p l e s m args below meth c H locs ls F
  refine lv_if_ne F.1 F.2.1 hdg ht (fun q => ?_) (fun q => ?_)
  · try rw [oI_0] at q
    rw [oI_eq (by omega)] at q
    exact kt (by first | exact q | omega) p l e s m args below meth c H locs ls F
  · try rw [oI_0] at q
    rw [oI_eq (by omega)] at q
    exact kf (by first | exact q | omega) p l e s m args below meth c H locs ls F
end ROWS
end
section
section ROWS2
variable {G : GT} {M : MI} {R : Room} {E : ET} {Z : ZT} {ex : Bool} {sh : List Ob} {k n : Nat} {pc : Nat} {lv lv' : List (Nat × Value)} {st : List Value} {σ : Sg}

theorem cv_set {B : Nat} {fks : List FK} {j : Nat} {fk fk1 : FK} {f : Int → Int} {z : Int} (h : fks[j]? = some fk) : (fks.mapIdx (fun i q => cvF B q (f (i : Int)))).set j (cvF B fk1 z) = (fks.set j fk1).mapIdx (fun i q => cvF B q (if (i : Int) = (j : Int) then z else f (i : Int))) := by
  have hl := (List.getElem?_eq_some_iff.mp h).1
  apply List.ext_getElem?
  intro i
  by_cases hi : i = j
  · subst hi
    rw [List.getElem?_set_self (by simpa using hl), List.getElem?_mapIdx, List.getElem?_set_self hl]
    simp
  · rw [List.getElem?_set_ne (Ne.symm hi), List.getElem?_mapIdx, List.getElem?_mapIdx, List.getElem?_set_ne (Ne.symm hi)]
    have h9 : ¬ (i : Int) = (j : Int) := by omega
    simp [h9]
theorem fk_same {fks : List FK} {j : Nat} {fk : FK} (h : fks[j]? = some fk) : fks.set j fk = fks := by
  apply List.ext_getElem?
  intro k
  by_cases hk : k = j
  · subst hk
    rw [List.getElem?_set_self (List.getElem?_eq_some_iff.mp h).1, h]
  · rw [List.getElem?_set_ne (Ne.symm hk)]
theorem up_row {σ : Sg} {a : Nat} {i z : Int} : up σ a i z a = fun j => if j = i then z else σ a j := by funext j; exact up_at
theorem r_getf {a ci j N idx : Nat} {z : Int} {fks : List FK} {C : String} {T : u_T} {fk : FK} {v : Value} (hdg : decode M.2.1 pc = .ok (.getfield idx, 3)) (hs : sh[a]? = some (.inl (ci, fks))) (hf : fks[j]? = some fk) (hc : vwCl[ci]? = some (C, T, N)) (hj : j < N) (hz : (j : Int) = z)
    (hin : ∀ w ∈ u_ws C T N, w ∈ TBG) (hlink : Cond.fieldLink M.1.cls idx C (T j).2.1 (T j).2.2.1 ∈ TBG) (hC : C = (T j).1) (hv : cvF G.1 fk (σ a z) = v) (kk : Rn G M R E Z ex sh k n (pc + 3) lv (v :: st) σ) : Rn G M R E Z ex sh k n pc lv (Rf G a :: st) σ := by
  intro p l e s m args below meth c H locs ls F
  subst hz hv
  refine va_get (D := G.2.1) (ci := ci) (v := cvF G.1 fk (σ a j)) (C := C) (T := T) (N := N) F.1 F.2.1 F.wd hin F.own F.tb.1 F.hw.1 a (wl_get hs) hc j hj (F.wd _ hlink) (fun x9 h9 => by rw [hC]; exact h9) ?_ hdg (kk p l e s m args below meth c H locs ls F)
  simp [List.getElem?_mapIdx, hf]
theorem r_getI {a ci j N idx : Nat} {z : Int} {fks : List FK} {C : String} {T : u_T} (hdg : decode M.2.1 pc = .ok (.getfield idx, 3)) (hs : sh[a]? = some (.inl (ci, fks))) (hf : fks[j]? = some (.inl false)) (hc : vwCl[ci]? = some (C, T, N)) (hj : j < N) (hz : (j : Int) = z)
    (hin : ∀ w ∈ u_ws C T N, w ∈ TBG) (hlink : Cond.fieldLink M.1.cls idx C (T j).2.1 (T j).2.2.1 ∈ TBG) (hC : C = (T j).1) {x : Int} (hv : σ a z = x) (kk : Rn G M R E Z ex sh k n (pc + 3) lv (I x :: st) σ) : Rn G M R E Z ex sh k n pc lv (Rf G a :: st) σ := r_getf hdg hs hf hc hj hz hin hlink hC (by rw [hv]; rfl) kk
theorem r_getL {a ci j N idx : Nat} {z : Int} {fks : List FK} {C : String} {T : u_T} (hdg : decode M.2.1 pc = .ok (.getfield idx, 3)) (hs : sh[a]? = some (.inl (ci, fks))) (hf : fks[j]? = some (.inl true)) (hc : vwCl[ci]? = some (C, T, N)) (hj : j < N) (hz : (j : Int) = z)
    (hin : ∀ w ∈ u_ws C T N, w ∈ TBG) (hlink : Cond.fieldLink M.1.cls idx C (T j).2.1 (T j).2.2.1 ∈ TBG) (hC : C = (T j).1) {x : Int} (hv : σ a z = x) (kk : Rn G M R E Z ex sh k n (pc + 3) lv (Lg x :: st) σ) : Rn G M R E Z ex sh k n pc lv (Rf G a :: st) σ := r_getf hdg hs hf hc hj hz hin hlink hC (by rw [hv]; rfl) kk
theorem r_getR {a ci j N idx b : Nat} {fks : List FK} {C : String} {T : u_T} (hdg : decode M.2.1 pc = .ok (.getfield idx, 3)) (hs : sh[a]? = some (.inl (ci, fks))) (hf : fks[j]? = some (.inr (some b))) (hc : vwCl[ci]? = some (C, T, N)) (hj : j < N)
    (hin : ∀ w ∈ u_ws C T N, w ∈ TBG) (hlink : Cond.fieldLink M.1.cls idx C (T j).2.1 (T j).2.2.1 ∈ TBG) (hC : C = (T j).1) (kk : Rn G M R E Z ex sh k n (pc + 3) lv (Rf G b :: st) σ) : Rn G M R E Z ex sh k n pc lv (Rf G a :: st) σ := r_getf hdg hs hf hc hj rfl hin hlink hC rfl kk
theorem put_hw {ci a j N : Nat} {w : Int} {fks : List FK} {fk fk1 : FK} {C : String} {T : u_T} {H H1 : Heap} {cell : Cell} {s : State} {own : String} (ty0 : Nat → FieldType) (hK : va_K G.2.1 vwCl (tysG G) s) (hts : ∀ w ∈ TBG, w.before #[] s = true) (hin : ∀ w ∈ u_ws C T N, w ∈ TBG) (hty : ∀ k, k < N → parseFieldDescriptor (T k).2.2.1 = some (ty0 k)) (hnm : ∀ a, a < N → ∀ b, b < N → a ≠ b → (T a).2.1 ≠ (T b).2.1)
    (hF : Hw G ex sh σ H) (hs : sh[a]? = some (.inl (ci, fks))) (hf : fks[j]? = some fk) (hc : vwCl[ci]? = some (C, T, N)) (hj : j < N) (hcell : H[G.1 + a]? = some cell) (e1 : H1[G.1 + a]? = some (cell.setSlot (G.2.1.2 ci j) (cvF G.1 fk1 w))) (e2 : H1.size = H.size) (e3 : ∀ q, q ≠ G.1 + a → H1[q]? = H[q]?) :
    Hw G ex (sh.set a (.inl (ci, fks.set j fk1))) (up σ a j w) H1 := by
  have hap := va_apart (own := own) hts hin ty0 hty hnm hK hc
  refine ⟨?_, fun q => by rw [e2, List.length_set]; exact hF.2 q⟩
  have he := wl_get (G := G) (σ := σ) hs
  obtain ⟨r, h1, cell', q1, q2, q3, q4⟩ := hF.1 a _ he
  cases hcell.symm.trans q1
  have hr : r = (C, T, N) := Option.some.inj (h1.symm.trans hc)
  subst hr
  have hl : j < (fks.mapIdx (fun j fk => cvF G.1 fk (σ a (j : Int)))).length := by
    have := (List.getElem?_eq_some_iff.mp hf).1
    simpa using this
  have e9 := wl_set (G := G) (σ := σ) (σ' := up σ a (j : Int) w) (o' := .inl (ci, fks.set j fk1)) hs (fun b hb => up_ne hb)
  rw [← e9]
  have h8 := hF.1.set (A := Aq G) (e := .inr (ci, (fks.mapIdx (fun j fk => cvF G.1 fk (σ a (j : Int)))).set j (cvF G.1 fk1 w))) wl_D he ⟨_, hc, t_OB.to (V := updV (vp_V (fks.mapIdx (fun j fk => cvF G.1 fk (σ a (j : Int))))) j (cvF G.1 fk1 w)) ⟨_, e1, q2, q3, t_set q4 hap hj _⟩ (fun i _ => vp_updV_set hl _ i)⟩ e3
  rw [cv_set hf] at h8
  rw [up_row]
  exact h8
theorem r_putf {a ci j N idx : Nat} {z w : Int} {fks : List FK} {C : String} {T : u_T} {fk fk1 : FK} {v : Value} {ty : FieldType} (ty0 : Nat → FieldType) (hdg : decode M.2.1 pc = .ok (.putfield idx, 3)) (hs : sh[a]? = some (.inl (ci, fks))) (hf : fks[j]? = some fk) (hc : vwCl[ci]? = some (C, T, N)) (hj : j < N) (hz : (j : Int) = z)
    (hty : ∀ k, k < N → parseFieldDescriptor (T k).2.2.1 = some (ty0 k)) (hnm : ∀ a, a < N → ∀ b, b < N → a ≠ b → (T a).2.1 ≠ (T b).2.1)
    (hin : ∀ w ∈ u_ws C T N, w ∈ TBG) (hlink : Cond.fieldLink M.1.cls idx C (T j).2.1 (T j).2.2.1 ∈ TBG) (hC : C = (T j).1) (hfin : (T j).2.2.2 = false) (hty1 : ty0 j = ty) (hv : cvF G.1 fk1 w = v) (hnar : narrow ty v = v) (hfit : fits ty v = true)
    (kk : Rn G M R E Z ex (sh.set a (.inl (ci, fks.set j fk1))) k n (pc + 3) lv st (up σ a z w)) : Rn G M R E Z ex sh k n pc lv (v :: Rf G a :: st) σ := by
  intro p l e s m args below meth c H locs ls F
  subst hz hv hty1
  obtain ⟨r, h1, cell, q1, q2, q3, q4⟩ := F.hw.1 a _ (wl_get hs)
  have hr : r = (C, T, N) := Option.some.inj (h1.symm.trans hc)
  subst hr
  obtain ⟨hS, hfc, kC, hkC, hkind⟩ := F.tb.1.1 ci _ hc
  obtain ⟨cf, kf, fi, f, hi, hsl⟩ := hS j hj
  have hlay := F.wd _ (hin _ (u_in_lay hj))
  unfold u_lay at hlay
  rw [if_neg (by rw [hfin]; decide)] at hlay
  have hst := (u_facts hfc hkC (u_lays F.wd hin hj) hi).1
  have h6 := u_store hfc hkC hkind hlay hi (hty j hj) hnar hfit
  refine W.putK F.1 F.2.1 (f := f) ⟨F.own, F.wd _ hlink, ⟨_, _, _, by rw [hC]; exact hi⟩, hst⟩ (by rw [q2]; exact h6) q1 q3 (by rw [hsl]; exact k2_hasslot (q4 j hj)) rfl rfl hdg fun H1 e1 e2 e3 => ?_
  rw [hsl] at e1 ⊢
  exact kk p l e s m args below meth c H1 _ ls (F.hp (put_hw (own := M.1.cls) ty0 F.tb.1 F.tb.2.1 hin hty hnm F.hw hs hf hc hj q1 e1 e2 e3) (F.fs.put e2 e3 Aq_in))
theorem r_putI {a ci j N idx : Nat} {z w : Int} {fks : List FK} {C : String} {T : u_T} (ty0 : Nat → FieldType) (hdg : decode M.2.1 pc = .ok (.putfield idx, 3)) (hs : sh[a]? = some (.inl (ci, fks))) (hf : fks[j]? = some (.inl false)) (hc : vwCl[ci]? = some (C, T, N)) (hj : j < N) (hz : (j : Int) = z)
    (hty : ∀ k, k < N → parseFieldDescriptor (T k).2.2.1 = some (ty0 k)) (hnm : ∀ a, a < N → ∀ b, b < N → a ≠ b → (T a).2.1 ≠ (T b).2.1)
    (hin : ∀ w ∈ u_ws C T N, w ∈ TBG) (hlink : Cond.fieldLink M.1.cls idx C (T j).2.1 (T j).2.2.1 ∈ TBG) (hC : C = (T j).1) (hfin : (T j).2.2.2 = false) (hty1 : ty0 j = .int)
    (kk : Rn G M R E Z ex sh k n (pc + 3) lv st (up σ a z w)) : Rn G M R E Z ex sh k n pc lv (I w :: Rf G a :: st) σ := by
  refine r_putf (fk1 := .inl false) ty0 hdg hs hf hc hj hz hty hnm hin hlink hC hfin hty1 rfl rfl rfl ?_
  rw [fk_same hf, set_same hs]
  exact kk
theorem r_putL {a ci j N idx : Nat} {z w : Int} {fks : List FK} {C : String} {T : u_T} (ty0 : Nat → FieldType) (hdg : decode M.2.1 pc = .ok (.putfield idx, 3)) (hs : sh[a]? = some (.inl (ci, fks))) (hf : fks[j]? = some (.inl true)) (hc : vwCl[ci]? = some (C, T, N)) (hj : j < N) (hz : (j : Int) = z)
    (hty : ∀ k, k < N → parseFieldDescriptor (T k).2.2.1 = some (ty0 k)) (hnm : ∀ a, a < N → ∀ b, b < N → a ≠ b → (T a).2.1 ≠ (T b).2.1)
    (hin : ∀ w ∈ u_ws C T N, w ∈ TBG) (hlink : Cond.fieldLink M.1.cls idx C (T j).2.1 (T j).2.2.1 ∈ TBG) (hC : C = (T j).1) (hfin : (T j).2.2.2 = false) (hty1 : ty0 j = .long)
    (kk : Rn G M R E Z ex sh k n (pc + 3) lv st (up σ a z w)) : Rn G M R E Z ex sh k n pc lv (Lg w :: Rf G a :: st) σ := by
  refine r_putf (fk1 := .inl true) ty0 hdg hs hf hc hj hz hty hnm hin hlink hC hfin hty1 rfl rfl rfl ?_
  rw [fk_same hf, set_same hs]
  exact kk
/-- a final reference, in a constructor -/
theorem r_putRF {a ci j N idx b : Nat} {fks : List FK} {C : String} {T : u_T} {fk : FK} {ty : FieldType} (ty0 : Nat → FieldType) (hdg : decode M.2.1 pc = .ok (.putfield idx, 3)) (hs : sh[a]? = some (.inl (ci, fks))) (hf : fks[j]? = some fk) (hc : vwCl[ci]? = some (C, T, N)) (hj : j < N)
    (hty : ∀ k, k < N → parseFieldDescriptor (T k).2.2.1 = some (ty0 k)) (hnm : ∀ a, a < N → ∀ b, b < N → a ≠ b → (T a).2.1 ≠ (T b).2.1)
    (hin : ∀ w ∈ u_ws C T N, w ∈ TBG) (hlink : Cond.fieldLink M.1.cls idx C (T j).2.1 (T j).2.2.1 ∈ TBG) (hC : C = (T j).1) (hfin : (T j).2.2.2 = true) (hin2 : M.1.name = "<init>") (hcl : M.1.cls = C) (hty1 : ty0 j = ty) (hnar : narrow ty (Rf G b) = Rf G b) (hfit : fits ty (Rf G b) = true)
    (kk : Rn G M R E Z ex (sh.set a (.inl (ci, fks.set j (.inr (some b))))) k n (pc + 3) lv st (up σ a j 0)) : Rn G M R E Z ex sh k n pc lv (Rf G b :: Rf G a :: st) σ := by
  intro p l e s m args below meth c H locs ls F
  subst hty1
  obtain ⟨r, h1, cell, q1, q2, q3, q4⟩ := F.hw.1 a _ (wl_get hs)
  have hr : r = (C, T, N) := Option.some.inj (h1.symm.trans hc)
  subst hr
  obtain ⟨hS, hfc, kC, hkC, hkind⟩ := F.tb.1.1 ci _ hc
  obtain ⟨cf, kf, fi, f, hi, hsl⟩ := hS j hj
  have hlay := F.wd _ (hin _ (u_in_lay hj))
  unfold u_lay at hlay
  rw [if_pos hfin] at hlay
  have hst := (u_facts hfc hkC (u_lays F.wd hin hj) hi).1
  have hcf : m.cls = cf := by
    obtain ⟨_, _, c', _, _, _, -, -, hf', -, -, -, hown2, -⟩ := Cond.laysFinal_spec hlay
    have e1 : c' = cf := by have := hi.symm.trans hf'; simp at this; exact this.1.symm
    rw [← hC, ← hcl] at hown2
    rw [← e1]; exact Option.some.inj (F.own.symm.trans hown2)
  have h6 := u_fits hfc hkC hkind (Or.inr hlay) hi (hty j hj) hnar hfit
  refine W.putFinK F.1 F.2.1 F.own (F.wd _ hlink) (by rw [hC]; exact hi) hst hcf (by rw [F.2.2.2.2.2.2.2.2.2.2.2.1]; exact hin2) (by rw [q2]; exact h6) q1 q3 (by rw [hsl]; exact k2_hasslot (q4 j hj)) rfl rfl hdg fun H1 e1 e2 e3 => ?_
  rw [hsl] at e1 ⊢
  exact kk p l e s m args below meth c H1 _ ls (F.hp (put_hw (fk1 := .inr (some b)) (w := 0) (own := M.1.cls) ty0 F.tb.1 F.tb.2.1 hin hty hnm F.hw hs hf hc hj q1 e1 e2 e3) (F.fs.put e2 e3 Aq_in))
theorem r_iald {a N : Nat} {i : Int} (hdg : decode M.2.1 pc = .ok (.iaload, 1)) (hs : sh[a]? = some (.inr (.inl N))) (hi : 0 ≤ i ∧ i < (N : Int) ∧ (N : Int) ≤ 2147483647) {x : Int} (hv : σ a i = x) (kk : Rn G M R E Z ex sh k n (pc + 1) lv (I x :: st) σ) : Rn G M R E Z ex sh k n pc lv (I i :: Rf G a :: st) σ := by
  intro p l e s m args below meth c H locs ls F
  subst hv
  refine va_iald (D := G.2.1) F.1 F.2.1 F.tb.1 F.hw.1 a 0 (wl_get hs) rfl (oI_in hi) hdg ?_
  have h9 := kk p l e s m args below meth c H locs ls F
  show W p l e R s m args below meth c H locs k n (Z below args s) (F0 m (pc + 1) ls (.int (Int32.ofInt (σ a ((Int32.ofInt i).toNatClampNeg : Int))) :: st))
  rw [oI_nat hi.1 (by omega)]
  exact h9
theorem r_lald {a N : Nat} {i : Int} (hdg : decode M.2.1 pc = .ok (.laload, 1)) (hs : sh[a]? = some (.inr (.inr (.inl N)))) (hi : 0 ≤ i ∧ i < (N : Int) ∧ (N : Int) ≤ 2147483647) {x : Int} (hv : σ a i = x) (kk : Rn G M R E Z ex sh k n (pc + 1) lv (Lg x :: st) σ) : Rn G M R E Z ex sh k n pc lv (I i :: Rf G a :: st) σ := by
  intro p l e s m args below meth c H locs ls F
  subst hv
  refine va_lald (D := G.2.1) F.1 F.2.1 F.tb.1 F.hw.1 a 1 (wl_get hs) rfl (oI_in hi) hdg ?_
  have h9 := kk p l e s m args below meth c H locs ls F
  show W p l e R s m args below meth c H locs k n (Z below args s) (F0 m (pc + 1) ls (.long (Int64.ofInt (σ a ((Int32.ofInt i).toNatClampNeg : Int))) :: st))
  rw [oI_nat hi.1 (by omega)]
  exact h9
theorem r_alen {a N : Nat} (hdg : decode M.2.1 pc = .ok (.arraylength, 1)) (hs : sh[a]? = some (.inr (.inl N))) (kk : Rn G M R E Z ex sh k n (pc + 1) lv (I (N : Int) :: st) σ) : Rn G M R E Z ex sh k n pc lv (Rf G a :: st) σ := by
  intro p l e s m args below meth c H locs ls F
  exact va_alen (D := G.2.1) F.1 F.2.1 F.tb.1 F.hw.1 a 0 (wl_get hs) rfl (v := Int32.ofInt (N : Int)) (by exact (Int32.ofInt_eq_ofNat (n := N)).symm) hdg (kk p l e s m args below meth c H locs ls F)
theorem r_alenq {a N : Nat} {g : Nat → Option Nat} (hdg : decode M.2.1 pc = .ok (.arraylength, 1)) (hs : sh[a]? = some (.inr (.inr (.inr (N, g))))) (kk : Rn G M R E Z ex sh k n (pc + 1) lv (I (N : Int) :: st) σ) : Rn G M R E Z ex sh k n pc lv (Rf G a :: st) σ := by
  intro p l e s m args below meth c H locs ls F
  exact va_alen (D := G.2.1) F.1 F.2.1 F.tb.1 F.hw.1 a 2 (wl_get hs) rfl (v := Int32.ofInt (N : Int)) (by exact (Int32.ofInt_eq_ofNat (n := N)).symm) hdg (kk p l e s m args below meth c H locs ls F)
theorem r_aald {a N b : Nat} {i : Int} {g : Nat → Option Nat} (hdg : decode M.2.1 pc = .ok (.aaload, 1)) (hs : sh[a]? = some (.inr (.inr (.inr (N, g))))) (hi : 0 ≤ i ∧ i < (N : Int) ∧ (N : Int) ≤ 2147483647) (hg : g i.toNat = some b) (kk : Rn G M R E Z ex sh k n (pc + 1) lv (Rf G b :: st) σ) : Rn G M R E Z ex sh k n pc lv (I i :: Rf G a :: st) σ := by
  intro p l e s m args below meth c H locs ls F
  refine va_aldq (D := G.2.1) F.1 F.2.1 F.tb.1 F.hw.1 a 2 (wl_get hs) rfl (oI_in hi) hdg ?_
  have h9 := kk p l e s m args below meth c H locs ls F
  have e9 : (Int32.ofInt i).toNatClampNeg = i.toNat := by have := oI_nat hi.1 (by omega); omega
  show W p l e R s m args below meth c H locs k n (Z below args s) (F0 m (pc + 1) ls (va_rf ((g (Int32.ofInt i).toNatClampNeg).map (fun k => G.1 + k)) :: st))
  rw [e9, hg]
  exact h9
theorem hw_set {a : Nat} {o : Ob} {i w : Int} {e0 : va_E} {H H1 : Heap} (hF : Hw G ex sh σ H) (hs : sh[a]? = some o) (he : ent G (up σ a i w a) o = e0) (h1 : va_at G.2.1 vwCl (G.1 + a, e0) H1) (z : H1.size = H.size) (oq : ∀ q, q ≠ G.1 + a → H1[q]? = H[q]?) : Hw G ex sh (up σ a i w) H1 := by
  refine ⟨?_, fun q => by rw [z]; exact hF.2 q⟩
  rw [← wl_set0 (σ := σ) hs (fun b hb => up_ne hb)]
  exact hF.1.set (A := Aq G) wl_D (wl_get hs) (by rw [he]; exact h1) oq
theorem r_iast {a N : Nat} {i w : Int} (hdg : decode M.2.1 pc = .ok (.iastore, 1)) (hs : sh[a]? = some (.inr (.inl N))) (hi : 0 ≤ i ∧ i < (N : Int) ∧ (N : Int) ≤ 2147483647) (kk : Rn G M R E Z ex sh k n (pc + 1) lv st (up σ a i w)) : Rn G M R E Z ex sh k n pc lv (I w :: I i :: Rf G a :: st) σ := by
  intro p l e s m args below meth c H locs ls F
  have hcell : va_at G.2.1 vwCl (G.1 + a, ent G (σ a) (.inr (.inl N))) H := F.hw.1 a _ (wl_get hs)
  refine W.iast F.1 F.2.1 hcell ((F.tb.1.2 0 _ rfl).1 N (fun j => .int (Int32.ofInt (σ a (j : Int))))) (fun q => by cases q) (by show ¬ (_ ∨ (arrV _ _ _).slots.size ≤ _); rw [arrV_size]; exact oI_in hi) rfl rfl hdg fun H1 e9 z oq => ?_
  refine kk p l e s m args below meth c H1 _ ls (F.hp (hw_set F.hw hs rfl ?_ z oq) (F.fs.put z oq Aq_in))
  show H1[G.1 + a]? = some (vp_cell _ _)
  rw [e9]
  rw [vp_cell_i, vp_cell_i, arrV_store]
  congr 2
  funext q
  have h9 := oI_nat hi.1 (by omega)
  by_cases hq : q = (Int32.ofInt i).toNatClampNeg
  · subst hq
    simp [updV, up_at, h9]
  · have h8 : ¬ (q : Int) = i := by omega
    simp [updV, up_at, hq, h8]
theorem r_last {a N : Nat} {i w : Int} (hdg : decode M.2.1 pc = .ok (.lastore, 1)) (hs : sh[a]? = some (.inr (.inr (.inl N)))) (hi : 0 ≤ i ∧ i < (N : Int) ∧ (N : Int) ≤ 2147483647) (kk : Rn G M R E Z ex sh k n (pc + 1) lv st (up σ a i w)) : Rn G M R E Z ex sh k n pc lv (Lg w :: I i :: Rf G a :: st) σ := by
  intro p l e s m args below meth c H locs ls F
  have hcell : va_at G.2.1 vwCl (G.1 + a, ent G (σ a) (.inr (.inr (.inl N)))) H := F.hw.1 a _ (wl_get hs)
  refine W.last F.1 F.2.1 hcell ((F.tb.1.2 1 _ rfl).1 N (fun j => .long (Int64.ofInt (σ a (j : Int))))) (fun q => by cases q) (by show ¬ (_ ∨ (arrV _ _ _).slots.size ≤ _); rw [arrV_size]; exact oI_in hi) rfl rfl hdg fun H1 e9 z oq => ?_
  refine kk p l e s m args below meth c H1 _ ls (F.hp (hw_set F.hw hs rfl ?_ z oq) (F.fs.put z oq Aq_in))
  show H1[G.1 + a]? = some (vp_cell _ _)
  rw [e9]
  rw [vp_cell_l, vp_cell_l, arrV_store]
  congr 2
  funext q
  have h9 := oI_nat hi.1 (by omega)
  by_cases hq : q = (Int32.ofInt i).toNatClampNeg
  · subst hq
    simp [updV, up_at, h9]
  · have h8 : ¬ (q : Int) = i := by omega
    simp [updV, up_at, hq, h8]

end ROWS2
end
section

theorem NWL_form : ∀ w ∈ NWL, ∃ (a : String) (i : Nat) (x : MethodName) (h : String), w = .methodLinkNest a i x h := by
  simp only [NWL, List.forall_mem_cons]
  refine ⟨⟨_, _, _, _, rfl⟩, ⟨_, _, _, _, rfl⟩, ⟨_, _, _, _, rfl⟩, ⟨_, _, _, _, rfl⟩, ⟨_, _, _, _, rfl⟩, ⟨_, _, _, _, rfl⟩, ⟨_, _, _, _, rfl⟩, ⟨_, _, _, _, rfl⟩, ⟨_, _, _, _, rfl⟩, ⟨_, _, _, _, rfl⟩, ⟨_, _, _, _, rfl⟩, ⟨_, _, _, _, rfl⟩, ⟨_, _, _, _, rfl⟩, ⟨_, _, _, _, rfl⟩, fun _ h => absurd h List.not_mem_nil⟩
theorem Tb.warm {G : GT} {s U : State} (h : Tb G s) (hW : s.WarmedH U.vm) (hsz : s.heap.size ≤ U.heap.size) : Tb G U := by
  obtain ⟨h1, h2, h3, h4⟩ := h
  refine ⟨h1.moved hW.alike, fun w hw => word_at hW (TBG_gd hw) (h2 w hw), fun w hw => ?_, Nat.le_trans h4 hsz⟩
  obtain ⟨a, i, x, q, rfl⟩ := NWL_form w hw
  exact (h3 _ hw).warmM hW
theorem Pn_blind {G : GT} {ex : Bool} {sh : List Ob} {As : List Value} {σ : Sg} : FrameBlind (Pn G ex sh As σ) := fun a U g mk q => ⟨q.1, q.2.1.warm (U := U.calling g mk a) (State.WarmedH.refl U) (Nat.le_refl _), q.2.2⟩
section CALLS
variable {G : GT} {M : MI} {R : Room} {E : ET} {Z : ZT} {ex : Bool} {sh : List Ob} {k n : Nat} {pc : Nat} {lv lv' : List (Nat × Value)} {st : List Value} {σ : Sg}
theorem Pn_at {As : List Value} {p : Program} {l : Launch} {s : State} {m : MethodId} {args : Array Value} {meth : Method} {c : Code} {H : Heap} {locs : List Loc} {ls : Array Slot} (F : Fx G M E ex sh σ lv p l s m args meth c H locs ls) :
    ∀ U : State, U.heap = H → s.WarmedH U.vm → Pn G ex sh As σ As.toArray U := fun U hU hW =>
  ⟨rfl, F.tb.warm hW (by rw [hU]; exact F.fs.1), by rw [hU]; exact F.hw⟩
/-- behind a call that returns -/
theorem r_run {mc ms : Nat} {sh2 : List Ob} {As : Array Value} {st0 rest : List Value} {Post : Option Value → Sg → Prop}
    (run : ∀ (p : Program) (l : Launch) (e : Env) (s : State) (m : MethodId) (args : Array Value) (below : List Frame) (meth : Method) (c : Code) (H : Heap) (locs : List Loc) (ls : Array Slot), Fx G M E ex sh σ lv p l s m args meth c H locs ls →
      va_Run p l e R s m args below meth c H locs k n mc ms (F0 m pc ls st0) rest (Qn G ex sh2 Post As) (Aq G))
    (kk : ∀ (r : Option Value) (σ' : Sg), Post r σ' → Rn G M R E Z ex sh2 (k + mc) (n + ms) (pc + 3) lv (r.toList ++ rest) σ') : Rn G M R E Z ex sh k n pc lv st0 σ := by
  intro p l e s m args below meth c H locs ls F T hT X
  obtain ⟨v, st₀, t, T', L, h0, X', hL, e1, e2, ⟨⟨r, σ', hv, hp, hw⟩, hz, hk⟩, stp⟩ := run p l e s m args below meth c H locs ls F T hT X
  cases hv
  rw [h0] at hz hk
  have hS := F.fs
  obtain ⟨t2, a1, b1⟩ := kk v σ' hp p l e s m args below meth c T'.heap (locs ++ L) ls (F.hp (by rw [e1]; exact hw)
    ⟨Nat.le_trans hS.1 (by rw [e1]; exact hz), fun q h1 h2 => by rw [e1, hk q (Nat.lt_of_lt_of_le h1 hS.1) h2]; exact hS.2.1 q h1 h2, fun q hq => by
      rcases List.mem_append.mp hq with h | h
      · exact hS.2.2 q h
      · exact hL q h⟩) T' rfl X'
  exact ⟨t2, stp t2 a1, b1⟩
theorem gi_of {ws : List Cond} (h : ∀ w ∈ ws, w ∈ TBG) : GoodIn TBG ws := fun w hw => ⟨h w hw, TBG_gd (h w hw)⟩
/-- what is asked of a method that is called by its own name: code, class -/
def SV (M2 : MI) (N : Nat) : Prop := Cond.instanceMethod M2.1 ∈ TBG ∧ Cond.selects M2.1.cls M2.1 M2.1 ∈ TBG ∧ Cond.initialized M2.1.cls ∈ TBG ∧ Cond.code M2.1 M2.2.1 M2.2.2.1 M2.2.2.2 ∈ TBG ∧
  (M2.1.cls ≠ "java/lang/invoke/MethodHandle" ∧ M2.1.cls ≠ "java/lang/invoke/VarHandle" ∧ (parseMethodDescriptor M2.1.desc).map (fun d => d.parameters.length) = some N)
def SS (M2 : MI) (N : Nat) : Prop := Cond.static M2.1 ∈ TBG ∧ Cond.initialized M2.1.cls ∈ TBG ∧ Cond.code M2.1 M2.2.1 M2.2.2.1 M2.2.2.2 ∈ TBG ∧
  (M2.1.cls ≠ "java/lang/invoke/MethodHandle" ∧ M2.1.cls ≠ "java/lang/invoke/VarHandle" ∧ (parseMethodDescriptor M2.1.desc).map (fun d => d.parameters.length) = some N)
def SI (M2 : MI) (N : Nat) : Prop := M2.2.2.2 = none ∧ M2.1.name = "<init>" ∧ Cond.instanceMethod M2.1 ∈ TBG ∧ Cond.initialized M2.1.cls ∈ TBG ∧ Cond.code M2.1 M2.2.1 M2.2.2.1 M2.2.2.2 ∈ TBG ∧
  (M2.1.cls ≠ "java/lang/invoke/MethodHandle" ∧ M2.1.cls ≠ "java/lang/invoke/VarHandle" ∧ (parseMethodDescriptor M2.1.desc).map (fun d => d.parameters.length) = some N)
theorem r_callV {M2 : MI} {d2 mc ms b ci idx N : Nat} {fks : List FK} {C : String} {T : u_T} {sh2 : List Ob} {As rest st0 : List Value} {Post : Option Value → Sg → Prop}
    (hC : Ct G M2 d2 mc ms ex sh sh2 (Rf G b :: As) σ Post) (hdg : decode M.2.1 pc = .ok (.invokevirtual idx, 3)) (sv : SV M2 As.length) (hlink : Cond.methodLink M.1.cls idx M2.1 ∈ TBG)
    (hs : sh[b]? = some (.inl (ci, fks))) (hc : vwCl[ci]? = some (C, T, N)) (hcl : C = M2.1.cls) (hst : st0 = As.reverse ++ Rf G b :: rest) (hR : d2 + 1 ≤ R.frames ∧ 8 + (M2.2.2.1 + 11) + 40 * d2 ≤ R.locals) (hcat : (rest.map fun v => v.category).sum ≤ 8) (hf : k + mc ≤ R.cells ∧ n + ms ≤ R.slots)
    (kk : ∀ (r : Option Value) (σ' : Sg), Post r σ' → Rn G M R E Z ex sh2 (k + mc) (n + ms) (pc + 3) lv (r.toList ++ rest) σ') : Rn G M R E Z ex sh k n pc lv st0 σ := by
  refine r_run (mc := mc) (ms := ms) (As := (Rf G b :: As).toArray) (fun p l e s m args below meth c H locs ls F => ?_) kk
  obtain ⟨w1, w2, w3, w4, hy⟩ := sv
  obtain ⟨r9, h1, cell, q1, q2, q3, q4⟩ := F.hw.1 b _ (wl_get hs)
  obtain ⟨hfc, -⟩ := (F.tb.1.1 ci _ hc).2
  refine va_runV (Ts := TBG) (own := M.1.cls) (C := M2.1.cls) (As := As) ⟨F.1, F.2.1, F.2.2.1, F.own, F.wd⟩ (hC l) (cwV As.length F.wd (gi_of ?_) rfl rfl rfl ⟨rfl, hy⟩ hR) ⟨Pn_blind, ⟨cell, q1, by rw [q3]; rfl, by rw [← hcl, hfc, q2]⟩, Pn_at F⟩ rfl rfl F.hl.1 hst ?_ hdg hf
  · intro w hw
    simp only [wsV, List.mem_append, List.mem_cons, List.not_mem_nil, or_false] at hw
    rcases hw with (rfl | rfl | rfl | rfl) | rfl
    · exact hlink
    · exact w1
    · exact w2
    · exact w3
    · exact w4
  · show 2 * 0 + _ ≤ 8
    omega
theorem r_callS {M2 : MI} {d2 mc ms idx : Nat} {sh2 : List Ob} {As rest st0 : List Value} {Post : Option Value → Sg → Prop}
    (hC : Ct G M2 d2 mc ms ex sh sh2 As σ Post) (hdg : decode M.2.1 pc = .ok (.invokestatic idx, 3)) (sv : SS M2 As.length) (hlink : Cond.methodLink M.1.cls idx M2.1 ∈ TBG)
    (hst : st0 = As.reverse ++ rest) (hR : d2 + 1 ≤ R.frames ∧ 8 + (M2.2.2.1 + 11) + 40 * d2 ≤ R.locals) (hcat : (rest.map fun v => v.category).sum ≤ 8) (hf : k + mc ≤ R.cells ∧ n + ms ≤ R.slots)
    (kk : ∀ (r : Option Value) (σ' : Sg), Post r σ' → Rn G M R E Z ex sh2 (k + mc) (n + ms) (pc + 3) lv (r.toList ++ rest) σ') : Rn G M R E Z ex sh k n pc lv st0 σ := by
  refine r_run (mc := mc) (ms := ms) (As := As.toArray) (fun p l e s m args below meth c H locs ls F => ?_) kk
  obtain ⟨w1, w2, w3, hy⟩ := sv
  refine va_runS (Ts := TBG) (own := M.1.cls) (As := As) ⟨F.1, F.2.1, F.2.2.1, F.own, F.wd⟩ (hC l) (va_cwS As.length F.wd (gi_of ?_) rfl rfl rfl hy hR) ⟨Pn_blind, Pn_at F⟩ rfl rfl F.hl.1 hst ?_ hdg hf
  · intro w hw
    simp only [va_wsS, List.mem_append, List.mem_cons, List.not_mem_nil, or_false] at hw
    rcases hw with (rfl | rfl | rfl) | rfl
    · exact hlink
    · exact w1
    · exact w2
    · exact w3
  · show 2 * 0 + _ ≤ 8
    omega
/-- a private static method of a nest mate -/
theorem r_callSN {M2 : MI} {d2 mc ms idx : Nat} {host : String} {sh2 : List Ob} {As rest st0 : List Value} {Post : Option Value → Sg → Prop}
    (hC : Ct G M2 d2 mc ms ex sh sh2 As σ Post) (hdg : decode M.2.1 pc = .ok (.invokestatic idx, 3)) (sv : SS M2 As.length) (hlink : Cond.methodLinkNest M.1.cls idx M2.1 host ∈ NWL)
    (hst : st0 = As.reverse ++ rest) (hR : d2 + 1 ≤ R.frames ∧ 8 + (M2.2.2.1 + 11) + 40 * d2 ≤ R.locals) (hcat : (rest.map fun v => v.category).sum ≤ 8) (hf : k + mc ≤ R.cells ∧ n + ms ≤ R.slots)
    (kk : ∀ (r : Option Value) (σ' : Sg), Post r σ' → Rn G M R E Z ex sh2 (k + mc) (n + ms) (pc + 3) lv (r.toList ++ rest) σ') : Rn G M R E Z ex sh k n pc lv st0 σ := by
  refine r_run (mc := mc) (ms := ms) (As := As.toArray) (fun p l e s m args below meth c H locs ls F => ?_) kk
  obtain ⟨w1, w2, w3, hy⟩ := sv
  refine va_runSN (Ts := TBG) (own := M.1.cls) (host := host) (As := As) ⟨F.1, F.2.1, F.2.2.1, F.own, F.wd⟩ (hC l) ⟨va_cnB As.length F.wd (gi_of ?_) rfl rfl rfl (F.tb.2.2.1 _ hlink) (F.wd _ w2) hy hR, F.wd _ w1, trivial⟩ ⟨Pn_blind, Pn_at F⟩ rfl rfl F.hl.1 hst ?_ hdg hf
  · intro w hw
    simp only [List.mem_cons, List.not_mem_nil, or_false] at hw
    rw [hw]
    exact w3
  · show 2 * 0 + _ ≤ 8
    omega
theorem r_callI {M2 : MI} {d2 mc ms b idx : Nat} {sh2 : List Ob} {As rest st0 : List Value} {Post : Option Value → Sg → Prop}
    (hC : Ct G M2 d2 mc ms ex sh sh2 (Rf G b :: As) σ Post) (hdg : decode M.2.1 pc = .ok (.invokespecial idx, 3)) (sv : SI M2 As.length) (hlink : Cond.methodLink M.1.cls idx M2.1 ∈ TBG)
    (hst : st0 = As.reverse ++ Rf G b :: rest) (hR : d2 + 1 ≤ R.frames ∧ 8 + (M2.2.2.1 + 11) + 40 * d2 ≤ R.locals) (hcat : (rest.map fun v => v.category).sum ≤ 8) (hf : k + mc ≤ R.cells ∧ n + ms ≤ R.slots)
    (kk : ∀ (r : Option Value) (σ' : Sg), Post r σ' → Rn G M R E Z ex sh2 (k + mc) (n + ms) (pc + 3) lv (r.toList ++ rest) σ') : Rn G M R E Z ex sh k n pc lv st0 σ := by
  refine r_run (mc := mc) (ms := ms) (As := (Rf G b :: As).toArray) (fun p l e s m args below meth c H locs ls F => ?_) kk
  obtain ⟨w0, w9, w1, w2, w3, hy⟩ := sv
  have hM := hC l
  rw [w0] at hM w3
  refine va_runI (Ts := TBG) (own := M.1.cls) (As := As) ⟨F.1, F.2.1, F.2.2.1, F.own, F.wd⟩ hM (cwI As.length F.wd (gi_of ?_) rfl rfl rfl (F.wd _ w2) (F.wd _ hlink) (F.wd _ w1) w9 hy hR) ⟨Pn_blind, Pn_at F⟩ rfl rfl F.hl.1 hst ?_ hdg hf
  · intro w hw
    simp only [List.mem_cons, List.not_mem_nil, or_false] at hw
    rw [hw]
    exact w3
  · show 2 * 0 + _ ≤ 8
    omega
theorem r_callIN {M2 : MI} {d2 mc ms b idx : Nat} {host : String} {sh2 : List Ob} {As rest st0 : List Value} {Post : Option Value → Sg → Prop}
    (hC : Ct G M2 d2 mc ms ex sh sh2 (Rf G b :: As) σ Post) (hdg : decode M.2.1 pc = .ok (.invokespecial idx, 3)) (sv : SI M2 As.length) (hlink : Cond.methodLinkNest M.1.cls idx M2.1 host ∈ NWL)
    (hst : st0 = As.reverse ++ Rf G b :: rest) (hR : d2 + 1 ≤ R.frames ∧ 8 + (M2.2.2.1 + 11) + 40 * d2 ≤ R.locals) (hcat : (rest.map fun v => v.category).sum ≤ 8) (hf : k + mc ≤ R.cells ∧ n + ms ≤ R.slots)
    (kk : ∀ (r : Option Value) (σ' : Sg), Post r σ' → Rn G M R E Z ex sh2 (k + mc) (n + ms) (pc + 3) lv (r.toList ++ rest) σ') : Rn G M R E Z ex sh k n pc lv st0 σ := by
  refine r_run (mc := mc) (ms := ms) (As := (Rf G b :: As).toArray) (fun p l e s m args below meth c H locs ls F => ?_) kk
  obtain ⟨w0, w9, w1, w2, w3, hy⟩ := sv
  have hM := hC l
  rw [w0] at hM w3
  refine va_runIN (Ts := TBG) (own := M.1.cls) (host := host) (As := As) ⟨F.1, F.2.1, F.2.2.1, F.own, F.wd⟩ hM ⟨va_cnB As.length F.wd (gi_of ?_) rfl rfl rfl (F.tb.2.2.1 _ hlink) (F.wd _ w2) hy hR, w9, F.wd _ w1⟩ ⟨Pn_blind, Pn_at F⟩ rfl rfl F.hl.1 hst ?_ hdg hf
  · intro w hw
    simp only [List.mem_cons, List.not_mem_nil, or_false] at hw
    rw [hw]
    exact w3
  · show 2 * 0 + _ ≤ 8
    omega
/-! entry and ends -/
def Zn (G : GT) (ex : Bool) (sh : List Ob) (Post : Option Value → Sg → Prop) (mc ms : Nat) : ZT := fun below args s => MQ below (Qn G ex sh Post) args s mc ms (Aq G)
def E0 : ET := fun _ _ _ _ => True
theorem ct_of {d mc ms : Nat} {sh2 : List Ob} {As : List Value} {Post : Option Value → Sg → Prop} (hy : plainName M.1.cls = true) (hlen : (lg_sl As).length ≤ M.2.2.1) (hlv : lv_args 0 As = lv)
    (hR : Rn G M (rmD d mc ms) E0 (Zn G ex sh2 Post mc ms) ex sh 0 0 0 lv [] σ) : Ct G M d mc ms ex sh sh2 As σ Post := by
  intro l
  refine Met.ofW (cc := M.2.1) (maxL := M.2.2.1) (ret := M.2.2.2) hy rfl ?_
  intro p e s m args below meth c s₁ B hml hv
  obtain ⟨rfl, hTb, hHw⟩ := hv
  have hx := B.exec
  have hb := B.bytes
  have hr := B.returns
  have hown : s.vm.findClass M.1.cls = some m.cls := findClass_of_methodNamed B.named
  have hlocks := B.notSynchronized
  have hin : meth.name = M.1.name := (name_of_methodNamed B.named B.method).1
  have hl := lv_entry As (n := M.2.2.1) hlen
  rw [lg_entry_eq]
  rw [hlv] at hl
  exact hR p l e s m _ below meth c s.heap [] _ ⟨hx, hb, hml, hr, hown, fun w hw => word_at (State.WarmedH.refl s) (TBG_gd hw) (hTb.2.1 w hw), hTb, hHw, va_S.rf, hl, hlocks, hin, trivial⟩
theorem ct_ofF {d mc ms : Nat} {sh2 : List Ob} {As : List Value} {Post : Option Value → Sg → Prop} (hy : plainFor M.1 = true) (hlen : (lg_sl As).length ≤ M.2.2.1) (hlv : lv_args 0 As = lv)
    (hR : Rn G M (rmD d mc ms) E0 (Zn G ex sh2 Post mc ms) ex sh 0 0 0 lv [] σ) : Ct G M d mc ms ex sh sh2 As σ Post := by
  intro l
  refine va_MetF (cc := M.2.1) (maxL := M.2.2.1) (ret := M.2.2.2) hy rfl ?_
  intro p e s m args below meth c s₁ B hml hv
  obtain ⟨rfl, hTb, hHw⟩ := hv
  have hx := B.exec
  have hb := B.bytes
  have hr := B.returns
  have hown : s.vm.findClass M.1.cls = some m.cls := findClass_of_methodNamed B.named
  have hlocks := B.notSynchronized
  have hin : meth.name = M.1.name := (name_of_methodNamed B.named B.method).1
  have hl := lv_entry As (n := M.2.2.1) hlen
  rw [lg_entry_eq]
  rw [hlv] at hl
  exact hR p l e s m _ below meth c s.heap [] _ ⟨hx, hb, hml, hr, hown, fun w hw => word_at (State.WarmedH.refl s) (TBG_gd hw) (hTb.2.1 w hw), hTb, hHw, va_S.rf, hl, hlocks, hin, trivial⟩
theorem r_iret {x : Int} {Post : Option Value → Sg → Prop} (hdg : decode M.2.1 pc = .ok (.ireturn, 1)) (hr : M.2.2.2 = some .int) (hp : Post (some (I x)) σ) : Rn G M R E (Zn G ex sh Post k n) ex sh k n pc lv [I x] σ :=
  fun p l e s m args below meth c H locs ls F => W.iret F.1 F.2.1 (F.2.2.2.1.trans hr) (fun t ht hW => ⟨⟨some (I x), σ, rfl, hp, by rw [ht]; exact F.hw⟩, F.fs.F ht⟩) (fun q hq => F.fs.2.2 q hq) hdg F.lk
theorem r_zret {x : Int} {Post : Option Value → Sg → Prop} (hdg : decode M.2.1 pc = .ok (.ireturn, 1)) (hr : M.2.2.2 = some .boolean) (hn : narrow .boolean (I x) = I x) (hp : Post (some (I x)) σ) : Rn G M R E (Zn G ex sh Post k n) ex sh k n pc lv [I x] σ :=
  fun p l e s m args below meth c H locs ls F => W.zret F.1 F.2.1 (F.2.2.2.1.trans hr) hn (fun t ht hW => ⟨⟨some (I x), σ, rfl, hp, by rw [ht]; exact F.hw⟩, F.fs.F ht⟩) (fun q hq => F.fs.2.2 q hq) hdg F.lk
theorem r_lret {x : Int} {Post : Option Value → Sg → Prop} (hdg : decode M.2.1 pc = .ok (.lreturn, 1)) (hr : M.2.2.2 = some .long) (hp : Post (some (Lg x)) σ) : Rn G M R E (Zn G ex sh Post k n) ex sh k n pc lv [Lg x] σ :=
  fun p l e s m args below meth c H locs ls F => W.lret F.1 F.2.1 (F.2.2.2.1.trans hr) (fun t ht hW => ⟨⟨some (Lg x), σ, rfl, hp, by rw [ht]; exact F.hw⟩, F.fs.F ht⟩) (fun q hq => F.fs.2.2 q hq) hdg F.lk
theorem r_dret {x : UInt64} {Post : Option Value → Sg → Prop} (hdg : decode M.2.1 pc = .ok (.dreturn, 1)) (hr : M.2.2.2 = some .double) (hp : Post (some (.double x)) σ) : Rn G M R E (Zn G ex sh Post k n) ex sh k n pc lv [.double x] σ :=
  fun p l e s m args below meth c H locs ls F => W.dret F.1 F.2.1 (F.2.2.2.1.trans hr) (fun t ht hW => ⟨⟨some (.double x), σ, rfl, hp, by rw [ht]; exact F.hw⟩, F.fs.F ht⟩) (fun q hq => F.fs.2.2 q hq) hdg F.lk
theorem r_vret {Post : Option Value → Sg → Prop} (hdg : decode M.2.1 pc = .ok (.return_, 1)) (hr : M.2.2.2 = none) (hp : Post none σ) : Rn G M R E (Zn G ex sh Post k n) ex sh k n pc lv [] σ :=
  fun p l e s m args below meth c H locs ls F => W.vret F.1 F.2.1 (F.2.2.2.1.trans hr) (fun t ht hW => ⟨⟨none, σ, rfl, hp, by rw [ht]; exact F.hw⟩, F.fs.F ht⟩) (fun q hq => F.fs.2.2 q hq) hdg F.lk
theorem r_aret {b : Nat} {C : String} {Post : Option Value → Sg → Prop} (hdg : decode M.2.1 pc = .ok (.areturn, 1)) (hr : M.2.2.2 = some (.object C)) (hp : Post (some (Rf G b)) σ) : Rn G M R E (Zn G ex sh Post k n) ex sh k n pc lv [Rf G b] σ :=
  fun p l e s m args below meth c H locs ls F => W.aret F.1 F.2.1 (F.2.2.2.1.trans hr) (Or.inl ⟨_, rfl⟩) (Or.inr ⟨_, rfl⟩) (fun t ht hW => ⟨⟨some (Rf G b), σ, rfl, hp, by rw [ht]; exact F.hw⟩, F.fs.F ht⟩) (fun q hq => F.fs.2.2 q hq) hdg F.lk
theorem r_widen {k2 n2 : Nat} (h1 : k ≤ k2) (h2 : n ≤ n2) (kk : Rn G M R E Z ex sh k2 n2 pc lv st σ) : Rn G M R E Z ex sh k n pc lv st σ := fun p l e s m args below meth c H locs ls F => W.widen h1 h2 (kk p l e s m args below meth c H locs ls F)
theorem r_loose (kk : Rn G M R E Z false sh k n pc lv st σ) : Rn G M R E Z true sh k n pc lv st σ := fun p l e s m args below meth c H locs ls F => kk p l e s m args below meth c H locs ls (by
  obtain ⟨a1, a2, a3, a4, a5, a6, a7, a8, a9, a10, a11⟩ := F
  exact ⟨a1, a2, a3, a4, a5, a6, a7, ⟨a8.1, fun q => by cases q⟩, a9, a10, a11⟩)
end CALLS
end
section
section MORE
variable {G : GT} {M : MI} {R : Room} {E : ET} {Z : ZT} {ex : Bool} {sh : List Ob} {k n : Nat} {pc : Nat} {lv lv' : List (Nat × Value)} {st : List Value} {σ : Sg}
theorem r_dup {v : Value} (hdg : decode M.2.1 pc = .ok (.dup, 1)) (hv : v.category = 1) (kk : Rn G M R E Z ex sh k n (pc + 1) lv (v :: v :: st) σ) : Rn G M R E Z ex sh k n pc lv (v :: st) σ := fun p l e s m args below meth c H locs ls F => lv_dup F.1 F.2.1 hdg hv (kk p l e s m args below meth c H locs ls F)
theorem r_dup2 {v w : Value} (hdg : decode M.2.1 pc = .ok (.dup2, 1)) (hv : v.category = 1) (hw : w.category = 1) (kk : Rn G M R E Z ex sh k n (pc + 1) lv (v :: w :: v :: w :: st) σ) : Rn G M R E Z ex sh k n pc lv (v :: w :: st) σ := fun p l e s m args below meth c H locs ls F => lv_dup2_11 F.1 F.2.1 hdg hv hw (kk p l e s m args below meth c H locs ls F)
theorem r_dup_x1 {v w : Value} (hdg : decode M.2.1 pc = .ok (.dup_x1, 1)) (hv : v.category = 1) (hw : w.category = 1) (kk : Rn G M R E Z ex sh k n (pc + 1) lv (v :: w :: v :: st) σ) : Rn G M R E Z ex sh k n pc lv (v :: w :: st) σ := fun p l e s m args below meth c H locs ls F => lv_dup_x1 F.1 F.2.1 hdg hv hw (kk p l e s m args below meth c H locs ls F)
theorem r_pop {v : Value} (hdg : decode M.2.1 pc = .ok (.pop, 1)) (hv : v.category = 1) (kk : Rn G M R E Z ex sh k n (pc + 1) lv st σ) : Rn G M R E Z ex sh k n pc lv (v :: st) σ := fun p l e s m args below meth c H locs ls F => lv_pop F.1 F.2.1 hdg hv (kk p l e s m args below meth c H locs ls F)
theorem r_ifnull {a : Nat} {off : Int} (hdg : decode M.2.1 pc = .ok (.ifnull off, 3)) (kk : Rn G M R E Z ex sh k n (pc + 3) lv st σ) : Rn G M R E Z ex sh k n pc lv (Rf G a :: st) σ := fun p l e s m args below meth c H locs ls F => lv_ifnull F.1 F.2.1 hdg (kk p l e s m args below meth c H locs ls F)
theorem r_ifnonnull {a tgt : Nat} {off : Int} (hdg : decode M.2.1 pc = .ok (.ifnonnull off, 3)) (ht : (pc : Int) + off = (tgt : Int)) (kk : Rn G M R E Z ex sh k n tgt lv st σ) : Rn G M R E Z ex sh k n pc lv (Rf G a :: st) σ := fun p l e s m args below meth c H locs ls F => lv_ifnonnull F.1 F.2.1 hdg ht (kk p l e s m args below meth c H locs ls F)
theorem r_i2l {x : Int} (hdg : decode M.2.1 pc = .ok (.i2l, 1)) (h : -2147483648 ≤ x ∧ x ≤ 2147483647) (kk : Rn G M R E Z ex sh k n (pc + 1) lv (Lg x :: st) σ) : Rn G M R E Z ex sh k n pc lv (I x :: st) σ := fun p l e s m args below meth c H locs ls F => lv_i2l F.1 F.2.1 hdg (Int32.toInt64_ofInt h.1 h.2) (kk p l e s m args below meth c H locs ls F)
theorem r_ladd {x y : Int} (hdg : decode M.2.1 pc = .ok (.ladd, 1)) (kk : Rn G M R E Z ex sh k n (pc + 1) lv (Lg (x + y) :: st) σ) : Rn G M R E Z ex sh k n pc lv (Lg y :: Lg x :: st) σ := fun p l e s m args below meth c H locs ls F => lv_ladd F.1 F.2.1 hdg (by have h := kk p l e s m args below meth c H locs ls F; rwa [Lg, Int64.ofInt_add] at h)
theorem r_lmul {x y : Int} (hdg : decode M.2.1 pc = .ok (.lmul, 1)) (kk : Rn G M R E Z ex sh k n (pc + 1) lv (Lg (x * y) :: st) σ) : Rn G M R E Z ex sh k n pc lv (Lg y :: Lg x :: st) σ := fun p l e s m args below meth c H locs ls F => lv_lmul F.1 F.2.1 hdg (by have h := kk p l e s m args below meth c H locs ls F; rwa [Lg, Int64.ofInt_mul] at h)
theorem r_i2d {x : Int} (hdg : decode M.2.1 pc = .ok (.i2d, 1)) (kk : Rn G M R E Z ex sh k n (pc + 1) lv (.double (FP.i2d (Int32.ofInt x)) :: st) σ) : Rn G M R E Z ex sh k n pc lv (I x :: st) σ := fun p l e s m args below meth c H locs ls F => lv_i2d F.1 F.2.1 hdg (kk p l e s m args below meth c H locs ls F)
theorem r_ddiv {x y : UInt64} (hdg : decode M.2.1 pc = .ok (.ddiv, 1)) (hn : vf_n64 (FP.ddiv x y)) (kk : Rn G M R E Z ex sh k n (pc + 1) lv (.double (FP.ddiv x y) :: st) σ) : Rn G M R E Z ex sh k n pc lv (.double y :: .double x :: st) σ := fun p l e s m args below meth c H locs ls F => lv_ddiv F.1 F.2.1 hdg hn (kk p l e s m args below meth c H locs ls F)
theorem r_dmul {x y : UInt64} (hdg : decode M.2.1 pc = .ok (.dmul, 1)) (hn : vf_n64 (FP.dmul x y)) (kk : Rn G M R E Z ex sh k n (pc + 1) lv (.double (FP.dmul x y) :: st) σ) : Rn G M R E Z ex sh k n pc lv (.double y :: .double x :: st) σ := fun p l e s m args below meth c H locs ls F => lv_dmul F.1 F.2.1 hdg hn (kk p l e s m args below meth c H locs ls F)
theorem r_dsub {x y : UInt64} (hdg : decode M.2.1 pc = .ok (.dsub, 1)) (hn : vf_n64 (FP.dsub x y)) (kk : Rn G M R E Z ex sh k n (pc + 1) lv (.double (FP.dsub x y) :: st) σ) : Rn G M R E Z ex sh k n pc lv (.double y :: .double x :: st) σ := fun p l e s m args below meth c H locs ls F => lv_dsub F.1 F.2.1 hdg hn (kk p l e s m args below meth c H locs ls F)
theorem r_dcmp {x y : UInt64} {o : CmpOp} {z : Int} (hdg : decode M.2.1 pc = .ok (.dcmp o, 1)) (hz : Op.cmpValue (FP.dcmp x y) o = Int32.ofInt z) (kk : Rn G M R E Z ex sh k n (pc + 1) lv (I z :: st) σ) : Rn G M R E Z ex sh k n pc lv (.double y :: .double x :: st) σ := fun p l e s m args below meth c H locs ls F => lv_dcmp F.1 F.2.1 hdg (by have h := kk p l e s m args below meth c H locs ls F; rwa [I, ← hz] at h)
theorem r_d2l {x : UInt64} {z : Int} (hdg : decode M.2.1 pc = .ok (.d2l, 1)) (hz : FP.d2l x = Int64.ofInt z) (kk : Rn G M R E Z ex sh k n (pc + 1) lv (Lg z :: st) σ) : Rn G M R E Z ex sh k n pc lv (.double x :: st) σ := fun p l e s m args below meth c H locs ls F => lv_d2l F.1 F.2.1 hdg (by have h := kk p l e s m args below meth c H locs ls F; rwa [Lg, ← hz] at h)
def p2 (y : Int) : Int := 2 ^ y.toNat
theorem p2_0 : p2 0 = 1 := rfl
theorem p2_1 : p2 1 = 2 := rfl
theorem p2_2 : p2 2 = 4 := rfl
theorem p2_3 : p2 3 = 8 := rfl
theorem p2_4 : p2 4 = 16 := rfl
theorem oI_nI (n : Nat) : Int32.ofInt (n : Int) = nI n := Int32.ofInt_eq_ofNat
theorem r_ishl {x y : Int} (hdg : decode M.2.1 pc = .ok (.ishl, 1)) (h : 0 ≤ x ∧ x ≤ 1000 ∧ 0 ≤ y ∧ y ≤ 4) (kk : Rn G M R E Z ex sh k n (pc + 1) lv (I (x * p2 y) :: st) σ) : Rn G M R E Z ex sh k n pc lv (I y :: I x :: st) σ := by
  intro p l e s m args below meth c H locs ls F
  refine lv_ishl F.1 F.2.1 hdg ?_
  have h9 := kk p l e s m args below meth c H locs ls F
  obtain ⟨a, rfl⟩ : ∃ a : Nat, x = (a : Int) := ⟨x.toNat, by omega⟩
  have hy : y = 0 ∨ y = 1 ∨ y = 2 ∨ y = 3 ∨ y = 4 := by omega
  have e9 : Int32.ofInt ((a : Int) * p2 y) = Int32.ofInt (a : Int) <<< (Int32.ofInt y &&& 31) := by
    rcases hy with rfl | rfl | rfl | rfl | rfl
    · rw [show (a : Int) * p2 0 = ((a * 2 ^ 0 : Nat) : Int) by rw [p2_0]; omega, oI_nI, oI_nI, ← pk_shlN (Int32.ofInt 0 &&& 31) 0 (by decide) (by omega)]
    · rw [show (a : Int) * p2 1 = ((a * 2 ^ 1 : Nat) : Int) by rw [p2_1]; omega, oI_nI, oI_nI, ← pk_shlN (Int32.ofInt 1 &&& 31) 1 (by decide) (by omega)]
    · rw [show (a : Int) * p2 2 = ((a * 2 ^ 2 : Nat) : Int) by rw [p2_2]; omega, oI_nI, oI_nI, ← pk_shlN (Int32.ofInt 2 &&& 31) 2 (by decide) (by omega)]
    · rw [show (a : Int) * p2 3 = ((a * 2 ^ 3 : Nat) : Int) by rw [p2_3]; omega, oI_nI, oI_nI, ← pk_shlN (Int32.ofInt 3 &&& 31) 3 (by decide) (by omega)]
    · rw [show (a : Int) * p2 4 = ((a * 2 ^ 4 : Nat) : Int) by rw [p2_4]; omega, oI_nI, oI_nI, ← pk_shlN (Int32.ofInt 4 &&& 31) 4 (by decide) (by omega)]
  rwa [I, e9] at h9
theorem r_ishr {x y : Int} (hdg : decode M.2.1 pc = .ok (.ishr, 1)) (h : 0 ≤ x ∧ x ≤ 1000 ∧ 0 ≤ y ∧ y ≤ 4) (kk : Rn G M R E Z ex sh k n (pc + 1) lv (I (x / p2 y) :: st) σ) : Rn G M R E Z ex sh k n pc lv (I y :: I x :: st) σ := by
  intro p l e s m args below meth c H locs ls F
  refine lv_ishr F.1 F.2.1 hdg ?_
  have h9 := kk p l e s m args below meth c H locs ls F
  obtain ⟨a, rfl⟩ : ∃ a : Nat, x = (a : Int) := ⟨x.toNat, by omega⟩
  have hy : y = 0 ∨ y = 1 ∨ y = 2 ∨ y = 3 ∨ y = 4 := by omega
  have e9 : Int32.ofInt ((a : Int) / p2 y) = Int32.ofInt (a : Int) >>> (Int32.ofInt y &&& 31) := by
    rcases hy with rfl | rfl | rfl | rfl | rfl
    · rw [show (a : Int) / p2 0 = ((a / 2 ^ 0 : Nat) : Int) by rw [p2_0]; omega, oI_nI, oI_nI, ← pk_shrN (by omega) (Int32.ofInt 0 &&& 31) 0 (by decide)]
    · rw [show (a : Int) / p2 1 = ((a / 2 ^ 1 : Nat) : Int) by rw [p2_1]; omega, oI_nI, oI_nI, ← pk_shrN (by omega) (Int32.ofInt 1 &&& 31) 1 (by decide)]
    · rw [show (a : Int) / p2 2 = ((a / 2 ^ 2 : Nat) : Int) by rw [p2_2]; omega, oI_nI, oI_nI, ← pk_shrN (by omega) (Int32.ofInt 2 &&& 31) 2 (by decide)]
    · rw [show (a : Int) / p2 3 = ((a / 2 ^ 3 : Nat) : Int) by rw [p2_3]; omega, oI_nI, oI_nI, ← pk_shrN (by omega) (Int32.ofInt 3 &&& 31) 3 (by decide)]
    · rw [show (a : Int) / p2 4 = ((a / 2 ^ 4 : Nat) : Int) by rw [p2_4]; omega, oI_nI, oI_nI, ← pk_shrN (by omega) (Int32.ofInt 4 &&& 31) 4 (by decide)]
  rwa [I, e9] at h9
theorem r_putZ {a ci j N idx : Nat} {z w : Int} {fks : List FK} {C : String} {T : u_T} (ty0 : Nat → FieldType) (hdg : decode M.2.1 pc = .ok (.putfield idx, 3)) (hs : sh[a]? = some (.inl (ci, fks))) (hf : fks[j]? = some (.inl false)) (hc : vwCl[ci]? = some (C, T, N)) (hj : j < N) (hz : (j : Int) = z)
    (hty : ∀ k, k < N → parseFieldDescriptor (T k).2.2.1 = some (ty0 k)) (hnm : ∀ a, a < N → ∀ b, b < N → a ≠ b → (T a).2.1 ≠ (T b).2.1)
    (hin : ∀ w ∈ u_ws C T N, w ∈ TBG) (hlink : Cond.fieldLink M.1.cls idx C (T j).2.1 (T j).2.2.1 ∈ TBG) (hC : C = (T j).1) (hfin : (T j).2.2.2 = false) (hty1 : ty0 j = .boolean) (hn : narrow .boolean (I w) = I w) (hft : fits .boolean (I w) = true)
    (kk : Rn G M R E Z ex sh k n (pc + 3) lv st (up σ a z w)) : Rn G M R E Z ex sh k n pc lv (I w :: Rf G a :: st) σ := by
  refine r_putf (fk1 := .inl false) ty0 hdg hs hf hc hj hz hty hnm hin hlink hC hfin hty1 rfl hn hft ?_
  rw [fk_same hf, set_same hs]
  exact kk
theorem r_tableIn {dflt lo hi : Int} {offs : Array Int} {len : Nat} {x off : Int} {tgt : Nat} (hdg : decode M.2.1 pc = .ok (.tableswitch dflt lo hi offs, len)) (h : -2147483648 ≤ x ∧ x ≤ 2147483647 ∧ lo ≤ x ∧ x ≤ hi) (ho : offs[(x - lo).toNat]? = some off) (ht : (pc : Int) + off = (tgt : Int))
    (kk : Rn G M R E Z ex sh k n tgt lv st σ) : Rn G M R E Z ex sh k n pc lv (I x :: st) σ := fun p l e s m args below meth c H locs ls F => lv_tableIn F.1 F.2.1 hdg (by rw [oI h.1 h.2.1]; omega) (by rw [oI h.1 h.2.1]; omega) (by rw [oI h.1 h.2.1]; exact ho) ht (kk p l e s m args below meth c H locs ls F)
theorem r_tableOut {dflt lo hi : Int} {offs : Array Int} {len : Nat} {x : Int} {tgt : Nat} (hdg : decode M.2.1 pc = .ok (.tableswitch dflt lo hi offs, len)) (h : -2147483648 ≤ x ∧ x ≤ 2147483647 ∧ (x < lo ∨ hi < x)) (ht : (pc : Int) + dflt = (tgt : Int))
    (kk : Rn G M R E Z ex sh k n tgt lv st σ) : Rn G M R E Z ex sh k n pc lv (I x :: st) σ := fun p l e s m args below meth c H locs ls F => lv_tableOut F.1 F.2.1 hdg (by rw [oI h.1 h.2.1]; exact h.2.2) ht (kk p l e s m args below meth c H locs ls F)
end MORE
def svd : Nat → Option Nat := fun i => bif Nat.blt i 6 then some (20 + 3 * i) else none
abbrev ob0 : Ob := .inl (7, [.inr (some 1), .inr (some 4), .inr (some 5), .inr (some 10), .inr (some 15), .inr (some 18), .inr (some 38), .inr (some 42)])
abbrev ob1 : Ob := .inl (5, [.inl false, .inl false, .inl false, .inl false, .inl false, .inl false, .inr (some 2), .inr (some 3)])
abbrev ob2 : Ob := .inr (.inl 100)
abbrev ob3 : Ob := .inr (.inl 10)
abbrev ob4 : Ob := .inl (3, [.inl false, .inl false, .inl false, .inl false, .inr (some 1)])
abbrev ob5 : Ob := .inl (1, [.inr (some 1), .inr (some 6), .inr (some 7), .inr (some 8), .inr (some 9), .inl false, .inl false])
abbrev ob6 : Ob := .inr (.inl 30)
abbrev ob7 : Ob := .inr (.inl 3)
abbrev ob8 : Ob := .inr (.inl 50)
abbrev ob9 : Ob := .inr (.inl 5)
abbrev ob10 : Ob := .inl (0, [.inr (some 1), .inr (some 11), .inr (some 12), .inr (some 13), .inr (some 14)])
abbrev ob11 : Ob := .inr (.inl 121)
abbrev ob12 : Ob := .inr (.inl 121)
abbrev ob13 : Ob := .inr (.inl 11)
abbrev ob14 : Ob := .inr (.inl 11)
abbrev ob15 : Ob := .inl (6, [.inl false, .inr (some 16), .inr (some 17), .inl false, .inl false, .inl false, .inl false, .inl false])
abbrev ob16 : Ob := .inr (.inl 60)
abbrev ob17 : Ob := .inr (.inl 100)
abbrev ob18 : Ob := .inl (2, [.inl false, .inl false, .inr (some 19)])
abbrev ob19 : Ob := .inr (.inr (.inr (6, svd)))
abbrev ob20 : Ob := .inl (5, [.inl false, .inl false, .inl false, .inl false, .inl false, .inl false, .inr (some 21), .inr (some 22)])
abbrev ob21 : Ob := .inr (.inl 100)
abbrev ob22 : Ob := .inr (.inl 10)
abbrev ob23 : Ob := .inl (5, [.inl false, .inl false, .inl false, .inl false, .inl false, .inl false, .inr (some 24), .inr (some 25)])
abbrev ob24 : Ob := .inr (.inl 100)
abbrev ob25 : Ob := .inr (.inl 10)
abbrev ob26 : Ob := .inl (5, [.inl false, .inl false, .inl false, .inl false, .inl false, .inl false, .inr (some 27), .inr (some 28)])
abbrev ob27 : Ob := .inr (.inl 100)
abbrev ob28 : Ob := .inr (.inl 10)
abbrev ob29 : Ob := .inl (5, [.inl false, .inl false, .inl false, .inl false, .inl false, .inl false, .inr (some 30), .inr (some 31)])
abbrev ob30 : Ob := .inr (.inl 100)
abbrev ob31 : Ob := .inr (.inl 10)
abbrev ob32 : Ob := .inl (5, [.inl false, .inl false, .inl false, .inl false, .inl false, .inl false, .inr (some 33), .inr (some 34)])
abbrev ob33 : Ob := .inr (.inl 100)
abbrev ob34 : Ob := .inr (.inl 10)
abbrev ob35 : Ob := .inl (5, [.inl false, .inl false, .inl false, .inl false, .inl false, .inl false, .inr (some 36), .inr (some 37)])
abbrev ob36 : Ob := .inr (.inl 100)
abbrev ob37 : Ob := .inr (.inl 10)
abbrev ob38 : Ob := .inl (4, [.inl false, .inr (some 39)])
abbrev ob39 : Ob := .inl (5, [.inl false, .inl false, .inl false, .inl false, .inl false, .inl false, .inr (some 40), .inr (some 41)])
abbrev ob40 : Ob := .inr (.inl 100)
abbrev ob41 : Ob := .inr (.inl 10)
abbrev ob42 : Ob := .inl (4, [.inl false, .inr (some 43)])
abbrev ob43 : Ob := .inl (5, [.inl false, .inl false, .inl false, .inl false, .inl false, .inl false, .inr (some 44), .inr (some 45)])
abbrev ob44 : Ob := .inr (.inl 100)
abbrev ob45 : Ob := .inr (.inl 10)
def SH (Ω : List Ob) : List Ob := [ob0, ob1, ob2, ob3, ob4, ob5, ob6, ob7, ob8, ob9, ob10, ob11, ob12, ob13, ob14, ob15, ob16, ob17, ob18, ob19, ob20, ob21, ob22, ob23, ob24, ob25, ob26, ob27, ob28, ob29, ob30, ob31, ob32, ob33, ob34, ob35, ob36, ob37, ob38, ob39, ob40, ob41, ob42, ob43, ob44, ob45] ++ Ω
theorem sh0 {Ω : List Ob} : (SH Ω)[0]? = some ob0 := rfl
theorem sh1 {Ω : List Ob} : (SH Ω)[1]? = some ob1 := rfl
theorem sh2 {Ω : List Ob} : (SH Ω)[2]? = some ob2 := rfl
theorem sh3 {Ω : List Ob} : (SH Ω)[3]? = some ob3 := rfl
theorem sh4 {Ω : List Ob} : (SH Ω)[4]? = some ob4 := rfl
theorem sh5 {Ω : List Ob} : (SH Ω)[5]? = some ob5 := rfl
theorem sh6 {Ω : List Ob} : (SH Ω)[6]? = some ob6 := rfl
theorem sh7 {Ω : List Ob} : (SH Ω)[7]? = some ob7 := rfl
theorem sh8 {Ω : List Ob} : (SH Ω)[8]? = some ob8 := rfl
theorem sh9 {Ω : List Ob} : (SH Ω)[9]? = some ob9 := rfl
theorem sh10 {Ω : List Ob} : (SH Ω)[10]? = some ob10 := rfl
theorem sh11 {Ω : List Ob} : (SH Ω)[11]? = some ob11 := rfl
theorem sh12 {Ω : List Ob} : (SH Ω)[12]? = some ob12 := rfl
theorem sh13 {Ω : List Ob} : (SH Ω)[13]? = some ob13 := rfl
theorem sh14 {Ω : List Ob} : (SH Ω)[14]? = some ob14 := rfl
theorem sh15 {Ω : List Ob} : (SH Ω)[15]? = some ob15 := rfl
theorem sh16 {Ω : List Ob} : (SH Ω)[16]? = some ob16 := rfl
theorem sh17 {Ω : List Ob} : (SH Ω)[17]? = some ob17 := rfl
theorem sh18 {Ω : List Ob} : (SH Ω)[18]? = some ob18 := rfl
theorem sh19 {Ω : List Ob} : (SH Ω)[19]? = some ob19 := rfl
theorem sh20 {Ω : List Ob} : (SH Ω)[20]? = some ob20 := rfl
theorem sh21 {Ω : List Ob} : (SH Ω)[21]? = some ob21 := rfl
theorem sh22 {Ω : List Ob} : (SH Ω)[22]? = some ob22 := rfl
theorem sh23 {Ω : List Ob} : (SH Ω)[23]? = some ob23 := rfl
theorem sh24 {Ω : List Ob} : (SH Ω)[24]? = some ob24 := rfl
theorem sh25 {Ω : List Ob} : (SH Ω)[25]? = some ob25 := rfl
theorem sh26 {Ω : List Ob} : (SH Ω)[26]? = some ob26 := rfl
theorem sh27 {Ω : List Ob} : (SH Ω)[27]? = some ob27 := rfl
theorem sh28 {Ω : List Ob} : (SH Ω)[28]? = some ob28 := rfl
theorem sh29 {Ω : List Ob} : (SH Ω)[29]? = some ob29 := rfl
theorem sh30 {Ω : List Ob} : (SH Ω)[30]? = some ob30 := rfl
theorem sh31 {Ω : List Ob} : (SH Ω)[31]? = some ob31 := rfl
theorem sh32 {Ω : List Ob} : (SH Ω)[32]? = some ob32 := rfl
theorem sh33 {Ω : List Ob} : (SH Ω)[33]? = some ob33 := rfl
theorem sh34 {Ω : List Ob} : (SH Ω)[34]? = some ob34 := rfl
theorem sh35 {Ω : List Ob} : (SH Ω)[35]? = some ob35 := rfl
theorem sh36 {Ω : List Ob} : (SH Ω)[36]? = some ob36 := rfl
theorem sh37 {Ω : List Ob} : (SH Ω)[37]? = some ob37 := rfl
theorem sh38 {Ω : List Ob} : (SH Ω)[38]? = some ob38 := rfl
theorem sh39 {Ω : List Ob} : (SH Ω)[39]? = some ob39 := rfl
theorem sh40 {Ω : List Ob} : (SH Ω)[40]? = some ob40 := rfl
theorem sh41 {Ω : List Ob} : (SH Ω)[41]? = some ob41 := rfl
theorem sh42 {Ω : List Ob} : (SH Ω)[42]? = some ob42 := rfl
theorem sh43 {Ω : List Ob} : (SH Ω)[43]? = some ob43 := rfl
theorem sh44 {Ω : List Ob} : (SH Ω)[44]? = some ob44 := rfl
theorem sh45 {Ω : List Ob} : (SH Ω)[45]? = some ob45 := rfl
abbrev mX7_init : MI := (yX7_init, cX7_init, 1, none)
abbrev mX5_init : MI := (yX5_init, cX5_init, 1, none)
abbrev mX7_setIn : MI := (yX7_setIn, cX7_setIn, 3, none)
abbrev mX3_init : MI := (yX3_init, cX3_init, 2, none)
abbrev mX1_init : MI := (yX1_init, cX1_init, 2, none)
abbrev mX0_init : MI := (yX0_init, cX0_init, 2, none)
abbrev mX6_init : MI := (yX6_init, cX6_init, 1, none)
abbrev mX2_init : MI := (yX2_init, cX2_init, 2, none)
abbrev mX4_init : MI := (yX4_init, cX4_init, 1, none)
abbrev mX7_put : MI := (yX7_put, cX7_put, 5, (some .int))
abbrev mX5_hasCell : MI := (yX5_hasCell, cX5_hasCell, 3, (some .boolean))
abbrev mX7_isFromTo : MI := (yX7_isFromTo, cX7_isFromTo, 3, (some .boolean))
abbrev mX2_save : MI := (yX2_save, cX2_save, 3, none)
abbrev mX2_stateAt : MI := (yX2_stateAt, cX2_stateAt, 3, (some (.object "LeastRows$State")))
abbrev mX5_copyFrom : MI := (yX5_copyFrom, cX5_copyFrom, 2, none)
abbrev mX7_copyAll : MI := (yX7_copyAll, cX7_copyAll, 3, none)
abbrev mX5_numberAt : MI := (yX5_numberAt, cX5_numberAt, 4, (some .int))
abbrev mX5_setNumber : MI := (yX5_setNumber, cX5_setNumber, 4, none)
abbrev mX7_points : MI := (yX7_points, cX7_points, 8, (some .int))
abbrev mJ9_min_7cf53 : MI := (yJ9_min_7cf53, cJ9_min_7cf53, 2, (some .int))
abbrev mX3_isKept : MI := (yX3_isKept, cX3_isKept, 1, (some .boolean))
abbrev mX3_examine : MI := (yX3_examine, cX3_examine, 4, none)
abbrev mX3_isGreater : MI := (yX3_isGreater, cX3_isGreater, 4, (some .boolean))
abbrev mX3_note : MI := (yX3_note, cX3_note, 4, none)
abbrev mX7_mend : MI := (yX7_mend, cX7_mend, 2, (some .int))
abbrev mX7_find : MI := (yX7_find, cX7_find, 3, (some .int))
abbrev mX7_isWay : MI := (yX7_isWay, cX7_isWay, 1, (some .boolean))
abbrev mX7_isOpen : MI := (yX7_isOpen, cX7_isOpen, 2, (some .boolean))
abbrev mX1_seek : MI := (yX1_seek, cX1_seek, 3, none)
abbrev mX1_leaveAllColumns : MI := (yX1_leaveAllColumns, cX1_leaveAllColumns, 2, none)
abbrev mX1_halve : MI := (yX1_halve, cX1_halve, 8, none)
abbrev mX1_leftmostLeast : MI := (yX1_leftmostLeast, cX1_leftmostLeast, 11, (some .int))
abbrev mX7_numberIn : MI := (yX7_numberIn, cX7_numberIn, 2, (some .int))
abbrev mX1_columnLeft : MI := (yX1_columnLeft, cX1_columnLeft, 3, (some .int))
abbrev mX1_look : MI := (yX1_look, cX1_look, 3, (some .int))
abbrev mX1_setPlace : MI := (yX1_setPlace, cX1_setPlace, 3, none)
abbrev mX1_pileColumns : MI := (yX1_pileColumns, cX1_pileColumns, 7, none)
abbrev mX1_rowsAt : MI := (yX1_rowsAt, cX1_rowsAt, 2, (some .int))
abbrev mX1_heightAfterThrowing : MI := (yX1_heightAfterThrowing, cX1_heightAfterThrowing, 8, (some .int))
abbrev mX1_rowAt : MI := (yX1_rowAt, cX1_rowAt, 3, (some .int))
abbrev mX1_fillBetween : MI := (yX1_fillBetween, cX1_fillBetween, 7, none)
abbrev mX1_placeBy : MI := (yX1_placeBy, cX1_placeBy, 3, (some .int))
abbrev mX1_lookAtAll : MI := (yX1_lookAtAll, cX1_lookAtAll, 2, none)
abbrev mX1_looksBy : MI := (yX1_looksBy, cX1_looksBy, 2, (some .int))
abbrev mX7_weigh : MI := (yX7_weigh, cX7_weigh, 2, (some .int))
abbrev mX5_addWeight : MI := (yX5_addWeight, cX5_addWeight, 2, none)
abbrev mX7_keep : MI := (yX7_keep, cX7_keep, 2, (some .int))
abbrev mX7_slotAt : MI := (yX7_slotAt, cX7_slotAt, 2, (some (.object "LeastRows$Slot")))
abbrev mX4_fillFrom : MI := (yX4_fillFrom, cX4_fillFrom, 2, none)
abbrev mX7_goBack : MI := (yX7_goBack, cX7_goBack, 3, (some .int))
abbrev mX7_undo : MI := (yX7_undo, cX7_undo, 1, (some .int))
abbrev mX2_latest : MI := (yX2_latest, cX2_latest, 1, (some (.object "LeastRows$State")))
abbrev mX7_count : MI := (yX7_count, cX7_count, 2, (some .int))
abbrev mX7_counted : MI := (yX7_counted, cX7_counted, 2, (some .int))
abbrev mX5_weightsTogether : MI := (yX5_weightsTogether, cX5_weightsTogether, 3, (some .int))
abbrev mX5_weightAt : MI := (yX5_weightAt, cX5_weightAt, 2, (some .int))
abbrev mX1_placesGoneBack : MI := (yX1_placesGoneBack, cX1_placesGoneBack, 3, (some .int))
abbrev mL_part : MI := (yL_part, cL_part, 2, (some .int))
abbrev mL_drawn : MI := (yL_drawn, cL_drawn, 2, (some .int))
abbrev mL_call : MI := (yL_call, cL_call, 7, (some .int))
abbrev mX7_size : MI := (yX7_size, cX7_size, 4, (some .int))
abbrev mX5_sizeCode : MI := (yX5_sizeCode, cX5_sizeCode, 1, (some .int))
abbrev mX7_unweigh : MI := (yX7_unweigh, cX7_unweigh, 1, (some .int))
abbrev mX7_append : MI := (yX7_append, cX7_append, 2, (some .int))
abbrev mX6_add : MI := (yX6_add, cX6_add, 2, none)
abbrev mX7_load : MI := (yX7_load, cX7_load, 3, (some .int))
abbrev mX6_tellsTable : MI := (yX6_tellsTable, cX6_tellsTable, 1, (some .boolean))
abbrev mX6_readToError : MI := (yX6_readToError, cX6_readToError, 2, (some .int))
abbrev mX6_codeAt : MI := (yX6_codeAt, cX6_codeAt, 2, (some .int))
abbrev mX6_takes : MI := (yX6_takes, cX6_takes, 2, (some .boolean))
abbrev mX6_takesDigit : MI := (yX6_takesDigit, cX6_takesDigit, 3, (some .boolean))
abbrev mX6_takesComma : MI := (yX6_takesComma, cX6_takesComma, 1, (some .boolean))
abbrev mX6_takesSlash : MI := (yX6_takesSlash, cX6_takesSlash, 1, (some .boolean))
abbrev mX6_isRowFull : MI := (yX6_isRowFull, cX6_isRowFull, 1, (some .boolean))
abbrev mX6_rowsTold : MI := (yX6_rowsTold, cX6_rowsTold, 1, (some .int))
abbrev mX6_columnsTold : MI := (yX6_columnsTold, cX6_columnsTold, 1, (some .int))
abbrev mX6_numberTold : MI := (yX6_numberTold, cX6_numberTold, 3, (some .int))
abbrev mX6_clear : MI := (yX6_clear, cX6_clear, 1, none)
abbrev mX7_cell : MI := (yX7_cell, cX7_cell, 3, (some .int))
abbrev mX7_place : MI := (yX7_place, cX7_place, 3, (some .int))
abbrev mX7_looks : MI := (yX7_looks, cX7_looks, 2, (some .int))
abbrev mX7_witness : MI := (yX7_witness, cX7_witness, 2, (some .int))
abbrev mX3_told : MI := (yX3_told, cX3_told, 2, (some .int))
abbrev mX7_weight : MI := (yX7_weight, cX7_weight, 2, (some .int))
abbrev mX7_cost : MI := (yX7_cost, cX7_cost, 3, (some .int))
abbrev mX0_planCuts : MI := (yX0_planCuts, cX0_planCuts, 4, none)
abbrev mX0_planLastCut : MI := (yX0_planLastCut, cX0_planLastCut, 9, none)
abbrev mX0_plannedCost : MI := (yX0_plannedCost, cX0_plannedCost, 2, (some .int))
abbrev mX0_tryAllCuts : MI := (yX0_tryAllCuts, cX0_tryAllCuts, 2, none)
abbrev mX0_tryNextPart : MI := (yX0_tryNextPart, cX0_tryNextPart, 7, none)
abbrev mX0_triedCost : MI := (yX0_triedCost, cX0_triedCost, 2, (some .int))
abbrev mX7_cut : MI := (yX7_cut, cX7_cut, 3, (some .int))
abbrev mX0_plannedCut : MI := (yX0_plannedCut, cX0_plannedCut, 5, (some .int))
abbrev mX7_fewestParts : MI := (yX7_fewestParts, cX7_fewestParts, 2, (some .int))
abbrev mX0_fewestPartsFor : MI := (yX0_fewestPartsFor, cX0_fewestPartsFor, 3, (some .int))
abbrev mL_seen : MI := (yL_seen, cL_seen, 4, (some .long))
abbrev mX7_bound : MI := (yX7_bound, cX7_bound, 3, (some .int))
abbrev mL_refused : MI := (yL_refused, cL_refused, 5, (some .boolean))
abbrev mL_refusesOne : MI := (yL_refusesOne, cL_refusesOne, 5, (some .boolean))
abbrev mL_far : MI := (yL_far, cL_far, 3, (some .int))
abbrev mL_small : MI := (yL_small, cL_small, 1, (some .boolean))
abbrev mX7_halfShare : MI := (yX7_halfShare, cX7_halfShare, 1, (some .double))
abbrev mX1_shareOfHalves : MI := (yX1_shareOfHalves, cX1_shareOfHalves, 2, (some .double))
abbrev mL_weights : MI := (yL_weights, cL_weights, 2, (some .boolean))
abbrev mL_texts : MI := (yL_texts, cL_texts, 2, (some .boolean))
abbrev mL_isError : MI := (yL_isError, cL_isError, 6, (some .boolean))
abbrev mX7_clearBuffer : MI := (yX7_clearBuffer, cX7_clearBuffer, 2, (some .int))
abbrev mL_types : MI := (yL_types, cL_types, 6, (some .boolean))
abbrev mX7_firstError : MI := (yX7_firstError, cX7_firstError, 1, (some .int))
theorem svX7_init : SI mX7_init 0 := ⟨rfl, rfl, q19, q1, q20, ⟨by decide +kernel, by decide +kernel, by decide +kernel⟩⟩
theorem svX5_init : SI mX5_init 0 := ⟨rfl, rfl, q27, q2, q28, ⟨by decide +kernel, by decide +kernel, by decide +kernel⟩⟩
theorem svX7_setIn : SS mX7_setIn 3 := ⟨q31, q1, q32, ⟨by decide +kernel, by decide +kernel, by decide +kernel⟩⟩
theorem svX3_init : SI mX3_init 1 := ⟨rfl, rfl, q56, q3, q57, ⟨by decide +kernel, by decide +kernel, by decide +kernel⟩⟩
theorem svX1_init : SI mX1_init 1 := ⟨rfl, rfl, q71, q4, q72, ⟨by decide +kernel, by decide +kernel, by decide +kernel⟩⟩
theorem svX0_init : SI mX0_init 1 := ⟨rfl, rfl, q84, q5, q85, ⟨by decide +kernel, by decide +kernel, by decide +kernel⟩⟩
theorem svX6_init : SI mX6_init 0 := ⟨rfl, rfl, q95, q6, q96, ⟨by decide +kernel, by decide +kernel, by decide +kernel⟩⟩
theorem svX2_init : SI mX2_init 0 := ⟨rfl, rfl, q110, q7, q111, ⟨by decide +kernel, by decide +kernel, by decide +kernel⟩⟩
theorem svX4_init : SI mX4_init 0 := ⟨rfl, rfl, q122, q8, q123, ⟨by decide +kernel, by decide +kernel, by decide +kernel⟩⟩
theorem svX7_put : SV mX7_put 3 := ⟨q140, q141, q1, q142, ⟨by decide +kernel, by decide +kernel, by decide +kernel⟩⟩
theorem svX5_hasCell : SV mX5_hasCell 2 := ⟨q144, q145, q2, q146, ⟨by decide +kernel, by decide +kernel, by decide +kernel⟩⟩
theorem svX7_isFromTo : SS mX7_isFromTo 3 := ⟨q148, q1, q149, ⟨by decide +kernel, by decide +kernel, by decide +kernel⟩⟩
theorem svX2_save : SV mX2_save 1 := ⟨q196, q197, q7, q198, ⟨by decide +kernel, by decide +kernel, by decide +kernel⟩⟩
theorem svX2_stateAt : SV mX2_stateAt 1 := ⟨q200, q618, q7, q201, ⟨by decide +kernel, by decide +kernel, by decide +kernel⟩⟩
theorem svX5_copyFrom : SV mX5_copyFrom 1 := ⟨q203, q204, q2, q205, ⟨by decide +kernel, by decide +kernel, by decide +kernel⟩⟩
theorem svX7_copyAll : SS mX7_copyAll 2 := ⟨q207, q1, q208, ⟨by decide +kernel, by decide +kernel, by decide +kernel⟩⟩
theorem svX5_numberAt : SV mX5_numberAt 2 := ⟨q210, q211, q2, q212, ⟨by decide +kernel, by decide +kernel, by decide +kernel⟩⟩
theorem svX5_setNumber : SV mX5_setNumber 3 := ⟨q214, q215, q2, q216, ⟨by decide +kernel, by decide +kernel, by decide +kernel⟩⟩
theorem svX7_points : SV mX7_points 4 := ⟨q218, q219, q1, q220, ⟨by decide +kernel, by decide +kernel, by decide +kernel⟩⟩
theorem svJ9_min_7cf53 : SS mJ9_min_7cf53 2 := ⟨q222, q14, q223, ⟨by decide +kernel, by decide +kernel, by decide +kernel⟩⟩
theorem svX3_isKept : SV mX3_isKept 0 := ⟨q225, q226, q3, q227, ⟨by decide +kernel, by decide +kernel, by decide +kernel⟩⟩
theorem svX3_examine : SV mX3_examine 0 := ⟨q229, q230, q3, q231, ⟨by decide +kernel, by decide +kernel, by decide +kernel⟩⟩
theorem svX3_isGreater : SV mX3_isGreater 3 := ⟨q233, q619, q3, q234, ⟨by decide +kernel, by decide +kernel, by decide +kernel⟩⟩
theorem svX3_note : SV mX3_note 3 := ⟨q237, q620, q3, q238, ⟨by decide +kernel, by decide +kernel, by decide +kernel⟩⟩
theorem svX7_mend : SV mX7_mend 0 := ⟨q240, q241, q1, q242, ⟨by decide +kernel, by decide +kernel, by decide +kernel⟩⟩
theorem svX7_find : SV mX7_find 1 := ⟨q245, q246, q1, q247, ⟨by decide +kernel, by decide +kernel, by decide +kernel⟩⟩
theorem svX7_isWay : SS mX7_isWay 1 := ⟨q249, q1, q250, ⟨by decide +kernel, by decide +kernel, by decide +kernel⟩⟩
theorem svX7_isOpen : SV mX7_isOpen 1 := ⟨q252, q621, q1, q253, ⟨by decide +kernel, by decide +kernel, by decide +kernel⟩⟩
theorem svX1_seek : SV mX1_seek 1 := ⟨q263, q264, q4, q265, ⟨by decide +kernel, by decide +kernel, by decide +kernel⟩⟩
theorem svX1_leaveAllColumns : SV mX1_leaveAllColumns 0 := ⟨q267, q622, q4, q268, ⟨by decide +kernel, by decide +kernel, by decide +kernel⟩⟩
theorem svX1_halve : SS mX1_halve 6 := ⟨q271, q4, q272, ⟨by decide +kernel, by decide +kernel, by decide +kernel⟩⟩
theorem svX1_leftmostLeast : SV mX1_leftmostLeast 4 := ⟨q274, q623, q4, q275, ⟨by decide +kernel, by decide +kernel, by decide +kernel⟩⟩
theorem svX7_numberIn : SS mX7_numberIn 2 := ⟨q277, q1, q278, ⟨by decide +kernel, by decide +kernel, by decide +kernel⟩⟩
theorem svX1_columnLeft : SV mX1_columnLeft 2 := ⟨q280, q624, q4, q281, ⟨by decide +kernel, by decide +kernel, by decide +kernel⟩⟩
theorem svX1_look : SV mX1_look 2 := ⟨q284, q625, q4, q285, ⟨by decide +kernel, by decide +kernel, by decide +kernel⟩⟩
theorem svX1_setPlace : SV mX1_setPlace 2 := ⟨q288, q626, q4, q289, ⟨by decide +kernel, by decide +kernel, by decide +kernel⟩⟩
theorem svX1_pileColumns : SV mX1_pileColumns 1 := ⟨q291, q627, q4, q292, ⟨by decide +kernel, by decide +kernel, by decide +kernel⟩⟩
theorem svX1_rowsAt : SV mX1_rowsAt 1 := ⟨q294, q628, q4, q295, ⟨by decide +kernel, by decide +kernel, by decide +kernel⟩⟩
theorem svX1_heightAfterThrowing : SV mX1_heightAfterThrowing 3 := ⟨q297, q629, q4, q298, ⟨by decide +kernel, by decide +kernel, by decide +kernel⟩⟩
theorem svX1_rowAt : SV mX1_rowAt 2 := ⟨q300, q630, q4, q301, ⟨by decide +kernel, by decide +kernel, by decide +kernel⟩⟩
theorem svX1_fillBetween : SV mX1_fillBetween 1 := ⟨q303, q631, q4, q304, ⟨by decide +kernel, by decide +kernel, by decide +kernel⟩⟩
theorem svX1_placeBy : SV mX1_placeBy 2 := ⟨q306, q307, q4, q308, ⟨by decide +kernel, by decide +kernel, by decide +kernel⟩⟩
theorem svX1_lookAtAll : SV mX1_lookAtAll 0 := ⟨q310, q632, q4, q311, ⟨by decide +kernel, by decide +kernel, by decide +kernel⟩⟩
theorem svX1_looksBy : SV mX1_looksBy 1 := ⟨q313, q314, q4, q315, ⟨by decide +kernel, by decide +kernel, by decide +kernel⟩⟩
theorem svX7_weigh : SV mX7_weigh 1 := ⟨q317, q318, q1, q319, ⟨by decide +kernel, by decide +kernel, by decide +kernel⟩⟩
theorem svX5_addWeight : SV mX5_addWeight 1 := ⟨q321, q322, q2, q323, ⟨by decide +kernel, by decide +kernel, by decide +kernel⟩⟩
theorem svX7_keep : SV mX7_keep 1 := ⟨q325, q326, q1, q327, ⟨by decide +kernel, by decide +kernel, by decide +kernel⟩⟩
theorem svX7_slotAt : SV mX7_slotAt 1 := ⟨q329, q633, q1, q330, ⟨by decide +kernel, by decide +kernel, by decide +kernel⟩⟩
theorem svX4_fillFrom : SV mX4_fillFrom 1 := ⟨q332, q333, q8, q334, ⟨by decide +kernel, by decide +kernel, by decide +kernel⟩⟩
theorem svX7_goBack : SV mX7_goBack 1 := ⟨q337, q338, q1, q339, ⟨by decide +kernel, by decide +kernel, by decide +kernel⟩⟩
theorem svX7_undo : SV mX7_undo 0 := ⟨q342, q343, q1, q344, ⟨by decide +kernel, by decide +kernel, by decide +kernel⟩⟩
theorem svX2_latest : SV mX2_latest 0 := ⟨q346, q347, q7, q348, ⟨by decide +kernel, by decide +kernel, by decide +kernel⟩⟩
theorem svX7_count : SV mX7_count 1 := ⟨q350, q351, q1, q352, ⟨by decide +kernel, by decide +kernel, by decide +kernel⟩⟩
theorem svX7_counted : SV mX7_counted 1 := ⟨q354, q634, q1, q355, ⟨by decide +kernel, by decide +kernel, by decide +kernel⟩⟩
theorem svX5_weightsTogether : SV mX5_weightsTogether 0 := ⟨q357, q358, q2, q359, ⟨by decide +kernel, by decide +kernel, by decide +kernel⟩⟩
theorem svX5_weightAt : SV mX5_weightAt 1 := ⟨q361, q362, q2, q363, ⟨by decide +kernel, by decide +kernel, by decide +kernel⟩⟩
theorem svX1_placesGoneBack : SV mX1_placesGoneBack 0 := ⟨q366, q367, q4, q368, ⟨by decide +kernel, by decide +kernel, by decide +kernel⟩⟩
theorem svX7_size : SV mX7_size 2 := ⟨q384, q385, q1, q386, ⟨by decide +kernel, by decide +kernel, by decide +kernel⟩⟩
theorem svX5_sizeCode : SV mX5_sizeCode 0 := ⟨q388, q389, q2, q390, ⟨by decide +kernel, by decide +kernel, by decide +kernel⟩⟩
theorem svX7_unweigh : SV mX7_unweigh 0 := ⟨q392, q393, q1, q394, ⟨by decide +kernel, by decide +kernel, by decide +kernel⟩⟩
theorem svX7_append : SV mX7_append 1 := ⟨q397, q398, q1, q399, ⟨by decide +kernel, by decide +kernel, by decide +kernel⟩⟩
theorem svX6_add : SV mX6_add 1 := ⟨q401, q402, q6, q403, ⟨by decide +kernel, by decide +kernel, by decide +kernel⟩⟩
theorem svX7_load : SV mX7_load 0 := ⟨q406, q407, q1, q408, ⟨by decide +kernel, by decide +kernel, by decide +kernel⟩⟩
theorem svX6_tellsTable : SV mX6_tellsTable 0 := ⟨q410, q411, q6, q412, ⟨by decide +kernel, by decide +kernel, by decide +kernel⟩⟩
theorem svX6_readToError : SV mX6_readToError 0 := ⟨q414, q415, q6, q416, ⟨by decide +kernel, by decide +kernel, by decide +kernel⟩⟩
theorem svX6_codeAt : SV mX6_codeAt 1 := ⟨q418, q419, q6, q420, ⟨by decide +kernel, by decide +kernel, by decide +kernel⟩⟩
theorem svX6_takes : SV mX6_takes 1 := ⟨q423, q635, q6, q424, ⟨by decide +kernel, by decide +kernel, by decide +kernel⟩⟩
theorem svX6_takesDigit : SV mX6_takesDigit 1 := ⟨q427, q636, q6, q428, ⟨by decide +kernel, by decide +kernel, by decide +kernel⟩⟩
theorem svX6_takesComma : SV mX6_takesComma 0 := ⟨q430, q637, q6, q431, ⟨by decide +kernel, by decide +kernel, by decide +kernel⟩⟩
theorem svX6_takesSlash : SV mX6_takesSlash 0 := ⟨q433, q638, q6, q434, ⟨by decide +kernel, by decide +kernel, by decide +kernel⟩⟩
theorem svX6_isRowFull : SV mX6_isRowFull 0 := ⟨q436, q639, q6, q437, ⟨by decide +kernel, by decide +kernel, by decide +kernel⟩⟩
theorem svX6_rowsTold : SV mX6_rowsTold 0 := ⟨q439, q440, q6, q441, ⟨by decide +kernel, by decide +kernel, by decide +kernel⟩⟩
theorem svX6_columnsTold : SV mX6_columnsTold 0 := ⟨q443, q444, q6, q445, ⟨by decide +kernel, by decide +kernel, by decide +kernel⟩⟩
theorem svX6_numberTold : SV mX6_numberTold 2 := ⟨q447, q448, q6, q449, ⟨by decide +kernel, by decide +kernel, by decide +kernel⟩⟩
theorem svX6_clear : SV mX6_clear 0 := ⟨q451, q452, q6, q453, ⟨by decide +kernel, by decide +kernel, by decide +kernel⟩⟩
theorem svX7_cell : SV mX7_cell 2 := ⟨q455, q456, q1, q457, ⟨by decide +kernel, by decide +kernel, by decide +kernel⟩⟩
theorem svX7_place : SV mX7_place 2 := ⟨q459, q460, q1, q461, ⟨by decide +kernel, by decide +kernel, by decide +kernel⟩⟩
theorem svX7_looks : SV mX7_looks 1 := ⟨q464, q465, q1, q466, ⟨by decide +kernel, by decide +kernel, by decide +kernel⟩⟩
theorem svX7_witness : SV mX7_witness 1 := ⟨q468, q469, q1, q470, ⟨by decide +kernel, by decide +kernel, by decide +kernel⟩⟩
theorem svX3_told : SV mX3_told 1 := ⟨q472, q473, q3, q474, ⟨by decide +kernel, by decide +kernel, by decide +kernel⟩⟩
theorem svX7_weight : SV mX7_weight 1 := ⟨q476, q477, q1, q478, ⟨by decide +kernel, by decide +kernel, by decide +kernel⟩⟩
theorem svX7_cost : SV mX7_cost 2 := ⟨q480, q481, q1, q482, ⟨by decide +kernel, by decide +kernel, by decide +kernel⟩⟩
theorem svX0_planCuts : SV mX0_planCuts 0 := ⟨q484, q485, q5, q486, ⟨by decide +kernel, by decide +kernel, by decide +kernel⟩⟩
theorem svX0_planLastCut : SV mX0_planLastCut 2 := ⟨q490, q640, q5, q491, ⟨by decide +kernel, by decide +kernel, by decide +kernel⟩⟩
theorem svX0_plannedCost : SV mX0_plannedCost 1 := ⟨q495, q496, q5, q497, ⟨by decide +kernel, by decide +kernel, by decide +kernel⟩⟩
theorem svX0_tryAllCuts : SV mX0_tryAllCuts 0 := ⟨q499, q500, q5, q501, ⟨by decide +kernel, by decide +kernel, by decide +kernel⟩⟩
theorem svX0_tryNextPart : SS mX0_tryNextPart 4 := ⟨q503, q5, q504, ⟨by decide +kernel, by decide +kernel, by decide +kernel⟩⟩
theorem svX0_triedCost : SV mX0_triedCost 1 := ⟨q506, q507, q5, q508, ⟨by decide +kernel, by decide +kernel, by decide +kernel⟩⟩
theorem svX7_cut : SV mX7_cut 2 := ⟨q512, q513, q1, q514, ⟨by decide +kernel, by decide +kernel, by decide +kernel⟩⟩
theorem svX0_plannedCut : SV mX0_plannedCut 2 := ⟨q516, q517, q5, q518, ⟨by decide +kernel, by decide +kernel, by decide +kernel⟩⟩
theorem svX7_fewestParts : SV mX7_fewestParts 1 := ⟨q520, q521, q1, q522, ⟨by decide +kernel, by decide +kernel, by decide +kernel⟩⟩
theorem svX0_fewestPartsFor : SV mX0_fewestPartsFor 1 := ⟨q525, q526, q5, q527, ⟨by decide +kernel, by decide +kernel, by decide +kernel⟩⟩
theorem svX7_bound : SV mX7_bound 0 := ⟨q536, q537, q1, q538, ⟨by decide +kernel, by decide +kernel, by decide +kernel⟩⟩
theorem svX7_halfShare : SV mX7_halfShare 0 := ⟨q554, q555, q1, q556, ⟨by decide +kernel, by decide +kernel, by decide +kernel⟩⟩
theorem svX1_shareOfHalves : SV mX1_shareOfHalves 0 := ⟨q558, q559, q4, q560, ⟨by decide +kernel, by decide +kernel, by decide +kernel⟩⟩
theorem svX7_clearBuffer : SV mX7_clearBuffer 0 := ⟨q578, q579, q1, q580, ⟨by decide +kernel, by decide +kernel, by decide +kernel⟩⟩
theorem svX7_firstError : SV mX7_firstError 0 := ⟨q586, q587, q1, q588, ⟨by decide +kernel, by decide +kernel, by decide +kernel⟩⟩
end
