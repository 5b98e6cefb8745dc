
theorem NWL_form : ∀ w ∈ NWL, ∃ (a : String) (i : Nat) (x : MethodName) (h : String), w = .methodLinkNest a i x h := by
  simp only [NWL, List.forall_mem_cons]
  refine ⟨⟨_, _, _, _, rfl⟩, ⟨_, _, _, _, rfl⟩, ⟨_, _, _, _, rfl⟩, ⟨_, _, _, _, rfl⟩, ⟨_, _, _, _, rfl⟩, ⟨_, _, _, _, rfl⟩, ⟨_, _, _, _, rfl⟩, ⟨_, _, _, _, rfl⟩, ⟨_, _, _, _, rfl⟩, ⟨_, _, _, _, rfl⟩, ⟨_, _, _, _, rfl⟩, ⟨_, _, _, _, rfl⟩, ⟨_, _, _, _, rfl⟩, ⟨_, _, _, _, rfl⟩, fun _ h => absurd h List.not_mem_nil⟩
theorem Tb.warm {G : GT} {s U : State} (h : Tb G s) (hW : s.WarmedH U.vm) (hsz : s.heap.size ≤ U.heap.size) : Tb G U := by
  obtain ⟨h1, h2, h3, h4⟩ := h
  refine ⟨h1.moved hW.alike, fun w hw => word_at hW (TBG_gd hw) (h2 w hw), fun w hw => ?_, Nat.le_trans h4 hsz⟩
  obtain ⟨a, i, x, q, rfl⟩ := NWL_form w hw
  exact (h3 _ hw).warmM hW
theorem Pn_blind {G : GT} {ex : Bool} {sh : List Ob} {As : List Value} {σ : Sg} : FrameBlind (Pn G ex sh As σ) := fun a U g mk q => ⟨q.1, q.2.1.warm (U := U.calling g mk a) (State.WarmedH.refl U) (Nat.le_refl _), q.2.2⟩
section CALLS
variable {G : GT} {M : MI} {R : Room} {E : ET} {Z : ZT} {ex : Bool} {sh : List Ob} {k n : Nat} {pc : Nat} {lv lv' : List (Nat × Value)} {st : List Value} {σ : Sg}
theorem Pn_at {As : List Value} {p : Program} {l : Launch} {s : State} {m : MethodId} {args : Array Value} {meth : Method} {c : Code} {H : Heap} {locs : List Loc} {ls : Array Slot} (F : Fx G M E ex sh σ lv p l s m args meth c H locs ls) :
    ∀ U : State, U.heap = H → s.WarmedH U.vm → Pn G ex sh As σ As.toArray U := fun U hU hW =>
  ⟨rfl, F.tb.warm hW (by rw [hU]; exact F.fs.1), by rw [hU]; exact F.hw⟩
/-- behind a call that returns -/
theorem r_run {mc ms : Nat} {sh2 : List Ob} {As : Array Value} {st0 rest : List Value} {Post : Option Value → Sg → Prop}
    (run : ∀ (p : Program) (l : Launch) (e : Env) (s : State) (m : MethodId) (args : Array Value) (below : List Frame) (meth : Method) (c : Code) (H : Heap) (locs : List Loc) (ls : Array Slot), Fx G M E ex sh σ lv p l s m args meth c H locs ls →
      va_Run p l e R s m args below meth c H locs k n mc ms (F0 m pc ls st0) rest (Qn G ex sh2 Post As) (Aq G))
    (kk : ∀ (r : Option Value) (σ' : Sg), Post r σ' → Rn G M R E Z ex sh2 (k + mc) (n + ms) (pc + 3) lv (r.toList ++ rest) σ') : Rn G M R E Z ex sh k n pc lv st0 σ := by
  intro p l e s m args below meth c H locs ls F T hT X
  obtain ⟨v, st₀, t, T', L, h0, X', hL, e1, e2, ⟨⟨r, σ', hv, hp, hw⟩, hz, hk⟩, stp⟩ := run p l e s m args below meth c H locs ls F T hT X
  cases hv
  rw [h0] at hz hk
  have hS := F.fs
  obtain ⟨t2, a1, b1⟩ := kk v σ' hp p l e s m args below meth c T'.heap (locs ++ L) ls (F.hp (by rw [e1]; exact hw)
    ⟨Nat.le_trans hS.1 (by rw [e1]; exact hz), fun q h1 h2 => by rw [e1, hk q (Nat.lt_of_lt_of_le h1 hS.1) h2]; exact hS.2.1 q h1 h2, fun q hq => by
      rcases List.mem_append.mp hq with h | h
      · exact hS.2.2 q h
      · exact hL q h⟩) T' rfl X'
  exact ⟨t2, stp t2 a1, b1⟩
theorem gi_of {ws : List Cond} (h : ∀ w ∈ ws, w ∈ TBG) : GoodIn TBG ws := fun w hw => ⟨h w hw, TBG_gd (h w hw)⟩
/-- what is asked of a method that is called by its own name: code, class -/
def SV (M2 : MI) (N : Nat) : Prop := Cond.instanceMethod M2.1 ∈ TBG ∧ Cond.selects M2.1.cls M2.1 M2.1 ∈ TBG ∧ Cond.initialized M2.1.cls ∈ TBG ∧ Cond.code M2.1 M2.2.1 M2.2.2.1 M2.2.2.2 ∈ TBG ∧
  (M2.1.cls ≠ "java/lang/invoke/MethodHandle" ∧ M2.1.cls ≠ "java/lang/invoke/VarHandle" ∧ (parseMethodDescriptor M2.1.desc).map (fun d => d.parameters.length) = some N)
def SS (M2 : MI) (N : Nat) : Prop := Cond.static M2.1 ∈ TBG ∧ Cond.initialized M2.1.cls ∈ TBG ∧ Cond.code M2.1 M2.2.1 M2.2.2.1 M2.2.2.2 ∈ TBG ∧
  (M2.1.cls ≠ "java/lang/invoke/MethodHandle" ∧ M2.1.cls ≠ "java/lang/invoke/VarHandle" ∧ (parseMethodDescriptor M2.1.desc).map (fun d => d.parameters.length) = some N)
def SI (M2 : MI) (N : Nat) : Prop := M2.2.2.2 = none ∧ M2.1.name = "<init>" ∧ Cond.instanceMethod M2.1 ∈ TBG ∧ Cond.initialized M2.1.cls ∈ TBG ∧ Cond.code M2.1 M2.2.1 M2.2.2.1 M2.2.2.2 ∈ TBG ∧
  (M2.1.cls ≠ "java/lang/invoke/MethodHandle" ∧ M2.1.cls ≠ "java/lang/invoke/VarHandle" ∧ (parseMethodDescriptor M2.1.desc).map (fun d => d.parameters.length) = some N)
theorem r_callV {M2 : MI} {d2 mc ms b ci idx N : Nat} {fks : List FK} {C : String} {T : u_T} {sh2 : List Ob} {As rest st0 : List Value} {Post : Option Value → Sg → Prop}
    (hC : Ct G M2 d2 mc ms ex sh sh2 (Rf G b :: As) σ Post) (hdg : decode M.2.1 pc = .ok (.invokevirtual idx, 3)) (sv : SV M2 As.length) (hlink : Cond.methodLink M.1.cls idx M2.1 ∈ TBG)
    (hs : sh[b]? = some (.inl (ci, fks))) (hc : vwCl[ci]? = some (C, T, N)) (hcl : C = M2.1.cls) (hst : st0 = As.reverse ++ Rf G b :: rest) (hR : d2 + 1 ≤ R.frames ∧ 8 + (M2.2.2.1 + 11) + 40 * d2 ≤ R.locals) (hcat : (rest.map fun v => v.category).sum ≤ 8) (hf : k + mc ≤ R.cells ∧ n + ms ≤ R.slots)
    (kk : ∀ (r : Option Value) (σ' : Sg), Post r σ' → Rn G M R E Z ex sh2 (k + mc) (n + ms) (pc + 3) lv (r.toList ++ rest) σ') : Rn G M R E Z ex sh k n pc lv st0 σ := by
  refine r_run (mc := mc) (ms := ms) (As := (Rf G b :: As).toArray) (fun p l e s m args below meth c H locs ls F => ?_) kk
  obtain ⟨w1, w2, w3, w4, hy⟩ := sv
  obtain ⟨r9, h1, cell, q1, q2, q3, q4⟩ := F.hw.1 b _ (wl_get hs)
  obtain ⟨hfc, -⟩ := (F.tb.1.1 ci _ hc).2
  refine va_runV (Ts := TBG) (own := M.1.cls) (C := M2.1.cls) (As := As) ⟨F.1, F.2.1, F.2.2.1, F.own, F.wd⟩ (hC l) (cwV As.length F.wd (gi_of ?_) rfl rfl rfl ⟨rfl, hy⟩ hR) ⟨Pn_blind, ⟨cell, q1, by rw [q3]; rfl, by rw [← hcl, hfc, q2]⟩, Pn_at F⟩ rfl rfl F.hl.1 hst ?_ hdg hf
  · intro w hw
    simp only [wsV, List.mem_append, List.mem_cons, List.not_mem_nil, or_false] at hw
    rcases hw with (rfl | rfl | rfl | rfl) | rfl
    · exact hlink
    · exact w1
    · exact w2
    · exact w3
    · exact w4
  · show 2 * 0 + _ ≤ 8
    omega
theorem r_callS {M2 : MI} {d2 mc ms idx : Nat} {sh2 : List Ob} {As rest st0 : List Value} {Post : Option Value → Sg → Prop}
    (hC : Ct G M2 d2 mc ms ex sh sh2 As σ Post) (hdg : decode M.2.1 pc = .ok (.invokestatic idx, 3)) (sv : SS M2 As.length) (hlink : Cond.methodLink M.1.cls idx M2.1 ∈ TBG)
    (hst : st0 = As.reverse ++ rest) (hR : d2 + 1 ≤ R.frames ∧ 8 + (M2.2.2.1 + 11) + 40 * d2 ≤ R.locals) (hcat : (rest.map fun v => v.category).sum ≤ 8) (hf : k + mc ≤ R.cells ∧ n + ms ≤ R.slots)
    (kk : ∀ (r : Option Value) (σ' : Sg), Post r σ' → Rn G M R E Z ex sh2 (k + mc) (n + ms) (pc + 3) lv (r.toList ++ rest) σ') : Rn G M R E Z ex sh k n pc lv st0 σ := by
  refine r_run (mc := mc) (ms := ms) (As := As.toArray) (fun p l e s m args below meth c H locs ls F => ?_) kk
  obtain ⟨w1, w2, w3, hy⟩ := sv
  refine va_runS (Ts := TBG) (own := M.1.cls) (As := As) ⟨F.1, F.2.1, F.2.2.1, F.own, F.wd⟩ (hC l) (va_cwS As.length F.wd (gi_of ?_) rfl rfl rfl hy hR) ⟨Pn_blind, Pn_at F⟩ rfl rfl F.hl.1 hst ?_ hdg hf
  · intro w hw
    simp only [va_wsS, List.mem_append, List.mem_cons, List.not_mem_nil, or_false] at hw
    rcases hw with (rfl | rfl | rfl) | rfl
    · exact hlink
    · exact w1
    · exact w2
    · exact w3
  · show 2 * 0 + _ ≤ 8
    omega
/-- a private static method of a nest mate -/
theorem r_callSN {M2 : MI} {d2 mc ms idx : Nat} {host : String} {sh2 : List Ob} {As rest st0 : List Value} {Post : Option Value → Sg → Prop}
    (hC : Ct G M2 d2 mc ms ex sh sh2 As σ Post) (hdg : decode M.2.1 pc = .ok (.invokestatic idx, 3)) (sv : SS M2 As.length) (hlink : Cond.methodLinkNest M.1.cls idx M2.1 host ∈ NWL)
    (hst : st0 = As.reverse ++ rest) (hR : d2 + 1 ≤ R.frames ∧ 8 + (M2.2.2.1 + 11) + 40 * d2 ≤ R.locals) (hcat : (rest.map fun v => v.category).sum ≤ 8) (hf : k + mc ≤ R.cells ∧ n + ms ≤ R.slots)
    (kk : ∀ (r : Option Value) (σ' : Sg), Post r σ' → Rn G M R E Z ex sh2 (k + mc) (n + ms) (pc + 3) lv (r.toList ++ rest) σ') : Rn G M R E Z ex sh k n pc lv st0 σ := by
  refine r_run (mc := mc) (ms := ms) (As := As.toArray) (fun p l e s m args below meth c H locs ls F => ?_) kk
  obtain ⟨w1, w2, w3, hy⟩ := sv
  refine va_runSN (Ts := TBG) (own := M.1.cls) (host := host) (As := As) ⟨F.1, F.2.1, F.2.2.1, F.own, F.wd⟩ (hC l) ⟨va_cnB As.length F.wd (gi_of ?_) rfl rfl rfl (F.tb.2.2.1 _ hlink) (F.wd _ w2) hy hR, F.wd _ w1, trivial⟩ ⟨Pn_blind, Pn_at F⟩ rfl rfl F.hl.1 hst ?_ hdg hf
  · intro w hw
    simp only [List.mem_cons, List.not_mem_nil, or_false] at hw
    rw [hw]
    exact w3
  · show 2 * 0 + _ ≤ 8
    omega
theorem r_callI {M2 : MI} {d2 mc ms b idx : Nat} {sh2 : List Ob} {As rest st0 : List Value} {Post : Option Value → Sg → Prop}
    (hC : Ct G M2 d2 mc ms ex sh sh2 (Rf G b :: As) σ Post) (hdg : decode M.2.1 pc = .ok (.invokespecial idx, 3)) (sv : SI M2 As.length) (hlink : Cond.methodLink M.1.cls idx M2.1 ∈ TBG)
    (hst : st0 = As.reverse ++ Rf G b :: rest) (hR : d2 + 1 ≤ R.frames ∧ 8 + (M2.2.2.1 + 11) + 40 * d2 ≤ R.locals) (hcat : (rest.map fun v => v.category).sum ≤ 8) (hf : k + mc ≤ R.cells ∧ n + ms ≤ R.slots)
    (kk : ∀ (r : Option Value) (σ' : Sg), Post r σ' → Rn G M R E Z ex sh2 (k + mc) (n + ms) (pc + 3) lv (r.toList ++ rest) σ') : Rn G M R E Z ex sh k n pc lv st0 σ := by
  refine r_run (mc := mc) (ms := ms) (As := (Rf G b :: As).toArray) (fun p l e s m args below meth c H locs ls F => ?_) kk
  obtain ⟨w0, w9, w1, w2, w3, hy⟩ := sv
  have hM := hC l
  rw [w0] at hM w3
  refine va_runI (Ts := TBG) (own := M.1.cls) (As := As) ⟨F.1, F.2.1, F.2.2.1, F.own, F.wd⟩ hM (cwI As.length F.wd (gi_of ?_) rfl rfl rfl (F.wd _ w2) (F.wd _ hlink) (F.wd _ w1) w9 hy hR) ⟨Pn_blind, Pn_at F⟩ rfl rfl F.hl.1 hst ?_ hdg hf
  · intro w hw
    simp only [List.mem_cons, List.not_mem_nil, or_false] at hw
    rw [hw]
    exact w3
  · show 2 * 0 + _ ≤ 8
    omega
theorem r_callIN {M2 : MI} {d2 mc ms b idx : Nat} {host : String} {sh2 : List Ob} {As rest st0 : List Value} {Post : Option Value → Sg → Prop}
    (hC : Ct G M2 d2 mc ms ex sh sh2 (Rf G b :: As) σ Post) (hdg : decode M.2.1 pc = .ok (.invokespecial idx, 3)) (sv : SI M2 As.length) (hlink : Cond.methodLinkNest M.1.cls idx M2.1 host ∈ NWL)
    (hst : st0 = As.reverse ++ Rf G b :: rest) (hR : d2 + 1 ≤ R.frames ∧ 8 + (M2.2.2.1 + 11) + 40 * d2 ≤ R.locals) (hcat : (rest.map fun v => v.category).sum ≤ 8) (hf : k + mc ≤ R.cells ∧ n + ms ≤ R.slots)
    (kk : ∀ (r : Option Value) (σ' : Sg), Post r σ' → Rn G M R E Z ex sh2 (k + mc) (n + ms) (pc + 3) lv (r.toList ++ rest) σ') : Rn G M R E Z ex sh k n pc lv st0 σ := by
  refine r_run (mc := mc) (ms := ms) (As := (Rf G b :: As).toArray) (fun p l e s m args below meth c H locs ls F => ?_) kk
  obtain ⟨w0, w9, w1, w2, w3, hy⟩ := sv
  have hM := hC l
  rw [w0] at hM w3
  refine va_runIN (Ts := TBG) (own := M.1.cls) (host := host) (As := As) ⟨F.1, F.2.1, F.2.2.1, F.own, F.wd⟩ hM ⟨va_cnB As.length F.wd (gi_of ?_) rfl rfl rfl (F.tb.2.2.1 _ hlink) (F.wd _ w2) hy hR, w9, F.wd _ w1⟩ ⟨Pn_blind, Pn_at F⟩ rfl rfl F.hl.1 hst ?_ hdg hf
  · intro w hw
    simp only [List.mem_cons, List.not_mem_nil, or_false] at hw
    rw [hw]
    exact w3
  · show 2 * 0 + _ ≤ 8
    omega
/-! entry and ends -/
def Zn (G : GT) (ex : Bool) (sh : List Ob) (Post : Option Value → Sg → Prop) (mc ms : Nat) : ZT := fun below args s => MQ below (Qn G ex sh Post) args s mc ms (Aq G)
def E0 : ET := fun _ _ _ _ => True
theorem ct_of {d mc ms : Nat} {sh2 : List Ob} {As : List Value} {Post : Option Value → Sg → Prop} (hy : plainName M.1.cls = true) (hlen : (lg_sl As).length ≤ M.2.2.1) (hlv : lv_args 0 As = lv)
    (hR : Rn G M (rmD d mc ms) E0 (Zn G ex sh2 Post mc ms) ex sh 0 0 0 lv [] σ) : Ct G M d mc ms ex sh sh2 As σ Post := by
  intro l
  refine Met.ofW (cc := M.2.1) (maxL := M.2.2.1) (ret := M.2.2.2) hy rfl ?_
  intro p e s m args below meth c s₁ B hml hv
  obtain ⟨rfl, hTb, hHw⟩ := hv
  have hx := B.exec
  have hb := B.bytes
  have hr := B.returns
  have hown : s.vm.findClass M.1.cls = some m.cls := findClass_of_methodNamed B.named
  have hlocks := B.notSynchronized
  have hin : meth.name = M.1.name := (name_of_methodNamed B.named B.method).1
  have hl := lv_entry As (n := M.2.2.1) hlen
  rw [lg_entry_eq]
  rw [hlv] at hl
  exact hR p l e s m _ below meth c s.heap [] _ ⟨hx, hb, hml, hr, hown, fun w hw => word_at (State.WarmedH.refl s) (TBG_gd hw) (hTb.2.1 w hw), hTb, hHw, va_S.rf, hl, hlocks, hin, trivial⟩
theorem ct_ofF {d mc ms : Nat} {sh2 : List Ob} {As : List Value} {Post : Option Value → Sg → Prop} (hy : plainFor M.1 = true) (hlen : (lg_sl As).length ≤ M.2.2.1) (hlv : lv_args 0 As = lv)
    (hR : Rn G M (rmD d mc ms) E0 (Zn G ex sh2 Post mc ms) ex sh 0 0 0 lv [] σ) : Ct G M d mc ms ex sh sh2 As σ Post := by
  intro l
  refine va_MetF (cc := M.2.1) (maxL := M.2.2.1) (ret := M.2.2.2) hy rfl ?_
  intro p e s m args below meth c s₁ B hml hv
  obtain ⟨rfl, hTb, hHw⟩ := hv
  have hx := B.exec
  have hb := B.bytes
  have hr := B.returns
  have hown : s.vm.findClass M.1.cls = some m.cls := findClass_of_methodNamed B.named
  have hlocks := B.notSynchronized
  have hin : meth.name = M.1.name := (name_of_methodNamed B.named B.method).1
  have hl := lv_entry As (n := M.2.2.1) hlen
  rw [lg_entry_eq]
  rw [hlv] at hl
  exact hR p l e s m _ below meth c s.heap [] _ ⟨hx, hb, hml, hr, hown, fun w hw => word_at (State.WarmedH.refl s) (TBG_gd hw) (hTb.2.1 w hw), hTb, hHw, va_S.rf, hl, hlocks, hin, trivial⟩
theorem r_iret {x : Int} {Post : Option Value → Sg → Prop} (hdg : decode M.2.1 pc = .ok (.ireturn, 1)) (hr : M.2.2.2 = some .int) (hp : Post (some (I x)) σ) : Rn G M R E (Zn G ex sh Post k n) ex sh k n pc lv [I x] σ :=
  fun p l e s m args below meth c H locs ls F => W.iret F.1 F.2.1 (F.2.2.2.1.trans hr) (fun t ht hW => ⟨⟨some (I x), σ, rfl, hp, by rw [ht]; exact F.hw⟩, F.fs.F ht⟩) (fun q hq => F.fs.2.2 q hq) hdg F.lk
theorem r_zret {x : Int} {Post : Option Value → Sg → Prop} (hdg : decode M.2.1 pc = .ok (.ireturn, 1)) (hr : M.2.2.2 = some .boolean) (hn : narrow .boolean (I x) = I x) (hp : Post (some (I x)) σ) : Rn G M R E (Zn G ex sh Post k n) ex sh k n pc lv [I x] σ :=
  fun p l e s m args below meth c H locs ls F => W.zret F.1 F.2.1 (F.2.2.2.1.trans hr) hn (fun t ht hW => ⟨⟨some (I x), σ, rfl, hp, by rw [ht]; exact F.hw⟩, F.fs.F ht⟩) (fun q hq => F.fs.2.2 q hq) hdg F.lk
theorem r_lret {x : Int} {Post : Option Value → Sg → Prop} (hdg : decode M.2.1 pc = .ok (.lreturn, 1)) (hr : M.2.2.2 = some .long) (hp : Post (some (Lg x)) σ) : Rn G M R E (Zn G ex sh Post k n) ex sh k n pc lv [Lg x] σ :=
  fun p l e s m args below meth c H locs ls F => W.lret F.1 F.2.1 (F.2.2.2.1.trans hr) (fun t ht hW => ⟨⟨some (Lg x), σ, rfl, hp, by rw [ht]; exact F.hw⟩, F.fs.F ht⟩) (fun q hq => F.fs.2.2 q hq) hdg F.lk
theorem r_dret {x : UInt64} {Post : Option Value → Sg → Prop} (hdg : decode M.2.1 pc = .ok (.dreturn, 1)) (hr : M.2.2.2 = some .double) (hp : Post (some (.double x)) σ) : Rn G M R E (Zn G ex sh Post k n) ex sh k n pc lv [.double x] σ :=
  fun p l e s m args below meth c H locs ls F => W.dret F.1 F.2.1 (F.2.2.2.1.trans hr) (fun t ht hW => ⟨⟨some (.double x), σ, rfl, hp, by rw [ht]; exact F.hw⟩, F.fs.F ht⟩) (fun q hq => F.fs.2.2 q hq) hdg F.lk
theorem r_vret {Post : Option Value → Sg → Prop} (hdg : decode M.2.1 pc = .ok (.return_, 1)) (hr : M.2.2.2 = none) (hp : Post none σ) : Rn G M R E (Zn G ex sh Post k n) ex sh k n pc lv [] σ :=
  fun p l e s m args below meth c H locs ls F => W.vret F.1 F.2.1 (F.2.2.2.1.trans hr) (fun t ht hW => ⟨⟨none, σ, rfl, hp, by rw [ht]; exact F.hw⟩, F.fs.F ht⟩) (fun q hq => F.fs.2.2 q hq) hdg F.lk
theorem r_aret {b : Nat} {C : String} {Post : Option Value → Sg → Prop} (hdg : decode M.2.1 pc = .ok (.areturn, 1)) (hr : M.2.2.2 = some (.object C)) (hp : Post (some (Rf G b)) σ) : Rn G M R E (Zn G ex sh Post k n) ex sh k n pc lv [Rf G b] σ :=
  fun p l e s m args below meth c H locs ls F => W.aret F.1 F.2.1 (F.2.2.2.1.trans hr) (Or.inl ⟨_, rfl⟩) (Or.inr ⟨_, rfl⟩) (fun t ht hW => ⟨⟨some (Rf G b), σ, rfl, hp, by rw [ht]; exact F.hw⟩, F.fs.F ht⟩) (fun q hq => F.fs.2.2 q hq) hdg F.lk
theorem r_widen {k2 n2 : Nat} (h1 : k ≤ k2) (h2 : n ≤ n2) (kk : Rn G M R E Z ex sh k2 n2 pc lv st σ) : Rn G M R E Z ex sh k n pc lv st σ := fun p l e s m args below meth c H locs ls F => W.widen h1 h2 (kk p l e s m args below meth c H locs ls F)
theorem r_loose (kk : Rn G M R E Z false sh k n pc lv st σ) : Rn G M R E Z true sh k n pc lv st σ := fun p l e s m args below meth c H locs ls F => kk p l e s m args below meth c H locs ls (by
  obtain ⟨a1, a2, a3, a4, a5, a6, a7, a8, a9, a10, a11⟩ := F
  exact ⟨a1, a2, a3, a4, a5, a6, a7, ⟨a8.1, fun q => by cases q⟩, a9, a10, a11⟩)
end CALLS
