variable {Ω : List Ob}

def XC2 : List (String × String) := [(xE1, xE2), (xE1, xE3), (xE2, xE1), (xE2, xE3), (xE3, xE1), (xE3, xE2)]
def XSW : List Cond := [.castable xE1 xE1, .castable xE2 xE2, .castable xE3 xE3]
theorem XSW_form : ∀ w ∈ XSW, ∃ (a b : String), w = .castable a b := by
  simp only [XSW, List.forall_mem_cons]
  exact ⟨⟨_, _, rfl⟩, ⟨_, _, rfl⟩, ⟨_, _, rfl⟩, fun _ h => absurd h List.not_mem_nil⟩
def TW (G : GT) (s : State) : Prop := TX G s ∧ (∀ w ∈ XSW, va_Nw w s) ∧ ∀ q ∈ XC2, va_Nc q.1 q.2 s
theorem TW.warm {G : GT} {s U : State} (h : TW G s) (hW : s.WarmedH U.vm) (hq : ∀ a : Nat, a < s.heap.size → ¬ Aq G a → U.heap[a]? = s.heap[a]?) : TW G U := by
  obtain ⟨h1, h2, h3⟩ := h
  refine ⟨h1.warm hW hq, fun w hw => ?_, fun q hw => (h3 q hw).moved hW.alike⟩
  obtain ⟨a, b, rfl⟩ := XSW_form w hw
  exact (h2 _ hw).warmC hW
theorem PX_blind {G : GT} {ex : Bool} {sh : List Ob} {As : List Value} {σ : Sg} : FrameBlind (fun a U => Pn G ex sh As σ a U ∧ TX G U) := fun a U g mk q => ⟨Pn_blind a U g mk q.1, q.2.warm (U := U.calling g mk a) (State.WarmedH.refl U) (fun _ _ _ => rfl)⟩
theorem PW_blind {G : GT} {ex : Bool} {sh : List Ob} {As : List Value} {σ : Sg} : FrameBlind (fun a U => Pn G ex sh As σ a U ∧ TW G U) := fun a U g mk q => ⟨Pn_blind a U g mk q.1, q.2.warm (U := U.calling g mk a) (State.WarmedH.refl U) (fun _ _ _ => rfl)⟩
abbrev HH : Type := List (Nat × Nat × Nat × Nat)
def EW (G : GT) (hh : HH) : ET := fun l s _ c => l.stackTraces = false ∧ TW G s ∧ c.exceptionTable.toList = tableOf hh
/-- where an exception that is thrown at pc is caught -/
def CtH (M : MI) (hh : HH) (pc : Nat) (E : String) (hpc : Nat) : Prop := ∃ (pre : List ExceptionTableEntry) (x : ExceptionTableEntry) (suf : List ExceptionTableEntry) (nm : String), tableOf hh = pre ++ x :: suf ∧
  (∀ z ∈ pre, covers z pc = false ∨ (z.catchType ≠ 0 ∧ ∃ nm : String, Cond.classLink M.1.cls z.catchType nm ∈ TBG ∧ (E, nm) ∈ XC2)) ∧ covers x pc = true ∧ x.catchType ≠ 0 ∧ Cond.classLink M.1.cls x.catchType nm ∈ TBG ∧ Cond.castable E nm ∈ XSW ∧ hpc = x.handlerPc
def CtW (G : GT) (M : MI) (hh : HH) (d : Nat) (sh : List Ob) (args : List Value) (σ : Sg) (Post : Option Value → Sg → Prop) : Prop :=
  ∀ l : Launch, l.stackTraces = false → Met l M.1 [Cond.codeWith M.1 M.2.1 M.2.2.1 M.2.2.2 hh] (rmD d 1 6) (fun a U => Pn G false sh args σ a U ∧ TW G U) (Qn G false sh Post) 1 6 (Aq G)
theorem vw_ofWH {l : Launch} {y : MethodName} {ws ws' : List Cond} {rm : Room} {Pc : Array Value → State → Prop} {Qc : Array Value → State → Outcome → State → Prop} {mc ms : Nat} {free : Addr → Prop} {cc : ByteArray} {maxL : Nat} {ret : Option FieldType} {hh : HH}
    (hy : plainName y.cls = true) (hw : ws = Cond.codeWith y cc maxL ret hh :: ws')
    (body : ∀ p e s m args below meth c s₁, BodyLoose p l y (headSpec ws rm) cc maxL ret e s m args below meth c s₁ → c.maxLocals = maxL → Pc args s →
      W p l e (headSpec ws rm).room s m args below meth c s.heap [] 0 0 (MQ below Qc args s mc ms free) (entryFrame m args maxL)) : Met l y ws rm Pc Qc mc ms free := by
  refine MetFree.of_bodyS (code := cc) (maxLocals := maxL) (ret := ret) hy ?_ ?_
  · intro args s m h hn
    obtain ⟨m9, meth, c, hn9, h1, h2, h3, h4, -, h5, h6, -⟩ := Cond.codeWith_spec (atoms_spec (ws := ws) h _ (by rw [hw]; exact List.mem_cons_self))
    cases hn.symm.trans hn9
    exact ⟨meth, c, h1, h2, h3, h4, h5, h6⟩
  · intro p e s m args below meth c s₁ B hml hP _
    have hh0 : s₁.heap = s.heap := by rw [B.state]; rfl
    obtain ⟨t, a1, o, b1, b2, b3⟩ := body p e s m args below meth c s₁ B hml hP s₁ hh0 (Stand.of_body B)
    exact ⟨t, o, a1, b1, b2, b3⟩
section CATCH
variable {G : GT} {M : MI} {R : Room} {E : ET} {Z : ZT} {ex : Bool} {sh : List Ob} {k n : Nat} {pc : Nat} {lv lv' : List (Nat × Value)} {st : List Value} {σ : Sg} {hh : HH}
theorem ctw_of {d : Nat} {As : List Value} {Post : Option Value → Sg → Prop} (hy : plainName M.1.cls = true) (hlen : (lg_sl As).length ≤ M.2.2.1) (hlv : lv_args 0 As = lv)
    (hR : Rn G M (rmD d 1 6) (EW G hh) (Zn G false sh Post 1 6) false sh 0 0 0 lv [] σ) : CtW G M hh d sh As σ Post := by
  intro l hst
  refine vw_ofWH (cc := M.2.1) (maxL := M.2.2.1) (ret := M.2.2.2) (hh := hh) hy rfl ?_
  intro p e s m args below meth c s₁ B hml hv
  obtain ⟨⟨rfl, hTb, hHw⟩, hTW⟩ := hv
  have htab := vx_table (x := M.1) B (atoms_spec (ws := [Cond.codeWith M.1 M.2.1 M.2.2.1 M.2.2.2 hh]) B.pre _ List.mem_cons_self)
  have hx := B.exec
  have hb := B.bytes
  have hr := B.returns
  have hown : s.vm.findClass M.1.cls = some m.cls := findClass_of_methodNamed B.named
  have hlocks := B.notSynchronized
  have hin : meth.name = M.1.name := (name_of_methodNamed B.named B.method).1
  have hl := lv_entry As (n := M.2.2.1) hlen
  rw [lg_entry_eq]
  rw [hlv] at hl
  exact hR p l e s m _ below meth c s.heap [] _ ⟨hx, hb, hml, hr, hown, fun w hw => word_at (State.WarmedH.refl s) (TBG_gd hw) (hTb.2.1 w hw), hTb, hHw, va_S.rf, hl, hlocks, hin, hst, hTW, htab⟩
theorem r_callX {M2 : MI} {d2 b ci idx N : Nat} {fks : List FK} {C : String} {T : u_T} {As rest st0 : List Value} {Post : Option Value → Sg → Prop} {PX : String → Sg → Prop}
    (hC : CtX G M2 d2 sh (Rf G b :: As) σ Post PX) (hdg : decode M.2.1 pc = .ok (.invokevirtual idx, 3)) (sv : SV M2 As.length) (hlink : Cond.methodLink M.1.cls idx M2.1 ∈ TBG)
    (hs : sh[b]? = some (.inl (ci, fks))) (hc : vwCl[ci]? = some (C, T, N)) (hcl : C = M2.1.cls) (hst : st0 = As.reverse ++ Rf G b :: rest) (hR : d2 + 1 ≤ R.frames ∧ 8 + (M2.2.2.1 + 11) + 40 * d2 ≤ R.locals) (hcat : (rest.map fun v => v.category).sum ≤ 8) (hf : k + 1 ≤ R.cells ∧ n + 6 ≤ R.slots)
    (kx : ∀ (Ex : String) (τ : Sg), PX Ex τ → ∃ hpc, CtH M hh pc Ex hpc ∧ ∀ q : Addr, Rn G M R (EW G hh) Z false sh (k + 1) (n + 6) hpc lv [.ref q] τ)
    (kk : ∀ (r : Option Value) (σ' : Sg), Post r σ' → Rn G M R (EW G hh) Z false sh (k + 1) (n + 6) (pc + 3) lv (r.toList ++ rest) σ') : Rn G M R (EW G hh) Z false sh k n pc lv st0 σ := by
  intro p l e s m args below meth c H locs ls F
  obtain ⟨hst9, hTW, htab⟩ := F.2.2.2.2.2.2.2.2.2.2.2.2
  obtain ⟨w1, w2, w3, w4, hy⟩ := sv
  obtain ⟨r9, h1, cell, q1, q2, q3, q4⟩ := F.hw.1 b _ (wl_get hs)
  obtain ⟨hfc, -⟩ := (F.tb.1.1 ci _ hc).2
  have run : vx_Run p l e R s m args below meth c H locs k n 1 6 (F0 m pc ls st0) rest (Qn G false sh Post (Rf G b :: As).toArray) (XCd G false sh PX) (Aq G) := by
    refine vx_runV (Ts := TBG) (own := M.1.cls) (C := M2.1.cls) (As := As) ⟨F.1, F.2.1, F.2.2.1, F.own, F.wd⟩ (hC l hst9) (cwV As.length F.wd (gi_of ?_) rfl rfl rfl ⟨rfl, hy⟩ hR) ⟨PX_blind, ⟨cell, q1, by rw [q3]; rfl, by rw [← hcl, hfc, q2]⟩, fun U hU hW => ⟨Pn_at F U hU hW, hTW.1.warm hW (fun a h1 h2 => by rw [hU]; exact F.fs.2.1 a h1 h2)⟩⟩ rfl rfl F.hl.1 hst ?_ hdg hf
    · intro w hw
      simp only [wsV, List.mem_append, List.mem_cons, List.not_mem_nil, or_false] at hw
      rcases hw with (rfl | rfl | rfl | rfl) | rfl
      · exact hlink
      · exact w1
      · exact w2
      · exact w3
      · exact w4
    · show 2 * 0 + _ ≤ 8
      omega
  have hS := F.fs
  intro T9 hT X
  rcases run T9 hT X with ⟨v, st₀, t, T', L, h0, X', hL, e1, e2, ⟨⟨r, σ', hv, hp, hw⟩, hz, hk⟩, stp⟩ | ⟨q, st₀, t, T', L, Ex, ce, h0, X', hL, e1, e2, ⟨⟨τ, hp, hw⟩, hz, hk⟩, hce, hcv, hcl2, stp⟩
  · cases hv
    rw [h0] at hz hk
    obtain ⟨t2, a1, b1⟩ := kk v σ' hp p l e s m args below meth c T'.heap (locs ++ L) ls (F.hp (by rw [e1]; exact hw)
      ⟨Nat.le_trans hS.1 (by rw [e1]; exact hz), fun q h1 h2 => by rw [e1, hk q (Nat.lt_of_lt_of_le h1 hS.1) h2]; exact hS.2.1 q h1 h2, fun q hq => by
        rcases List.mem_append.mp hq with h | h
        · exact hS.2.2 q h
        · exact hL q h⟩) T' rfl X'
    exact ⟨t2, stp t2 a1, b1⟩
  · rw [h0] at hz hk
    obtain ⟨hpc, ⟨pre, x, suf, nm, hsp, hpass, hx, hx0, hlk, hca, rfl⟩, hk2⟩ := kx Ex τ hp
    obtain ⟨t2, a1, b1⟩ := vx_catch F.own pre x suf (htab.trans hsp) (fun z hz => by
      rcases hpass z hz with h | ⟨h, nm9, g1, g2⟩
      · exact Or.inl h
      · exact Or.inr ⟨h, nm9, F.wd _ g1, hTW.2.2 _ g2⟩) hx hx0 (F.wd _ hlk) ((hTW.2.1 _ hca).use rfl) (by rw [e1]; exact hce) hcv hcl2
      (hk2 q p l e s m args below meth c T'.heap (locs ++ L) ls (F.hp (by rw [e1]; exact hw)
        ⟨Nat.le_trans hS.1 (by rw [e1]; exact hz), fun q h1 h2 => by rw [e1, hk q (Nat.lt_of_lt_of_le h1 hS.1) h2]; exact hS.2.1 q h1 h2, fun q hq => by
          rcases List.mem_append.mp hq with h | h
          · exact hS.2.2 q h
          · exact hL q h⟩)) T' rfl X'
    exact ⟨t2, stp.trans a1, b1⟩
theorem r_astoreq {i : Nat} {x : Addr} (hdg : decode M.2.1 pc = .ok (.astore i, 2)) (hn : i < M.2.2.1) (hl : lins i (.ref x) (lv.filter (fun q => !(q.1 == i) && !(q.1 + 1 == i && q.2.category == 2))) = lv') (kk : Rn G M R E Z ex sh k n (pc + 2) lv' st σ) : Rn G M R E Z ex sh k n pc lv ((.ref x) :: st) σ := fun p l e s m args below meth c H locs ls F => lv_astore F.1 F.2.1 hdg F.hl hn rfl (fun ls' h => kk p l e s m args below meth c H locs ls' (F.lv (lv_ins h hl)))
theorem r_astoreq_n {q : Fin 4} {i : Nat} {x : Addr} (hdg : decode M.2.1 pc = .ok (.astore_n q, 1)) (hi : (q : Nat) = i) (hn : i < M.2.2.1) (hl : lins i (.ref x) (lv.filter (fun q => !(q.1 == i) && !(q.1 + 1 == i && q.2.category == 2))) = lv') (kk : Rn G M R E Z ex sh k n (pc + 1) lv' st σ) : Rn G M R E Z ex sh k n pc lv ((.ref x) :: st) σ := fun p l e s m args below meth c H locs ls F => lv_astore_n F.1 F.2.1 hdg hi F.hl hn rfl (fun ls' h => kk p l e s m args below meth c H locs ls' (F.lv (lv_ins h hl)))
end CATCH


/-! ## what a method of the law stands on -/
def TV (G : GT) (s : State) : Prop := TW G s ∧ va_AO RX5 s
theorem TV.warm {G : GT} {s U : State} (h : TV G s) (hW : s.WarmedH U.vm) (hq : ∀ a : Nat, a < s.heap.size → ¬ Aq G a → U.heap[a]? = s.heap[a]?) : TV G U := ⟨h.1.warm hW hq, va_AO.moved hW.alike h.2⟩
def EV (G : GT) : ET := fun l s _ _ => l.stackTraces = false ∧ TV G s
theorem EV_ok {G : GT} : ∀ (l : Launch) (s : State) (args : Array Value) (c : Code), EV G l s args c → l.stackTraces = false ∧ TV G s := fun _ _ _ _ h => h
theorem EV_ao {G : GT} : ∀ (l : Launch) (s : State) (args : Array Value) (c : Code), EV G l s args c → va_AO RX5 s := fun _ _ _ _ h => h.2.2
def CtY (G : GT) (M : MI) (d mc ms : Nat) (ex ex2 : Bool) (sh sh' : List Ob) (args : List Value) (σ : Sg) (Post : Option Value → Sg → Prop) : Prop :=
  ∀ l : Launch, l.stackTraces = false → Met l M.1 [Cond.code M.1 M.2.1 M.2.2.1 M.2.2.2] (rmD d mc ms) (fun a U => Pn G ex sh args σ a U ∧ TV G U) (Qn G ex2 sh' Post) mc ms (Aq G)
theorem PV_blind {G : GT} {ex : Bool} {sh : List Ob} {As : List Value} {σ : Sg} : FrameBlind (fun a U => Pn G ex sh As σ a U ∧ TV G U) := fun a U g mk q => ⟨Pn_blind a U g mk q.1, q.2.warm (U := U.calling g mk a) (State.WarmedH.refl U) (fun _ _ _ => rfl)⟩
def reb (G : GT) (B δ : Nat) : GT := (B, G.2.1, (G.2.2.1, G.2.2.2.1, (G.2.2.2.2.1, δ)))
theorem Zq_mono {C n d : String} {A A' : Nat → Prop} {U : State} {H : Heap} (h : vx_Zq C n d A U H) (hq : ∀ q, A' q → A q) : vx_Zq C n d A' U H := by
  obtain ⟨h1, c, k, i, f, a, cell, g1, g2, g3, g4, g5, g6, g7, g8, g9, g10⟩ := h
  refine ⟨?_, c, k, i, f, a, cell, g1, g2, g3, g4, g5, g6, g7, g8, g9, fun z => g10 (hq _ z)⟩
  rcases h1 with ⟨c, k, i, f, a, cell, g1, g2, g3, g4, g5, g6, g7, g8⟩ | ⟨t, c, k, i, f, a, cell, g1, g2, g3, g4, g5, g6, g7, g8⟩
  · exact Or.inl ⟨c, k, i, f, a, cell, g1, g2, g3, g4, g5, g6, g7, fun z => g8 (hq _ z)⟩
  · exact Or.inr ⟨t, c, k, i, f, a, cell, g1, g2, g3, g4, g5, g6, g7, fun z => g8 (hq _ z)⟩
theorem TV.mono {G G' : GT} {s : State} (h : TV G s) (hq : ∀ q, Aq G' q → Aq G q) : TV G' s := by
  obtain ⟨⟨⟨h1, h2, h3, h4⟩, h5, h6⟩, h7⟩ := h
  exact ⟨⟨⟨h1, h2, Zq_mono h3 hq, Zq_mono h4 hq⟩, h5, h6⟩, h7⟩
theorem Tb.reb {G : GT} {B δ : Nat} {s : State} (h : Tb G s) (hB : B - δ ≤ s.heap.size) : Tb (reb G B δ) s := ⟨h.1, h.2.1, h.2.2.1, hB⟩
theorem hw_nil {G : GT} {σ : Sg} {H : Heap} : Hw G false [] σ H := ⟨fun k q h => by simp [wl] at h, fun q => by cases q⟩
theorem hw_nilT {G : GT} {σ : Sg} {H : Heap} (h : H.size = G.1) : Hw G true [] σ H := ⟨fun k q h => by simp [wl] at h, fun _ => h⟩
section YCALL
variable {G : GT} {M : MI} {R : Room} {E : ET} {Z : ZT} {ex : Bool} {sh : List Ob} {k n : Nat} {pc : Nat} {lv lv' : List (Nat × Value)} {st : List Value} {σ : Sg}
theorem cty_of {d mc ms : Nat} {ex2 : Bool} {sh2 : List Ob} {As : List Value} {Post : Option Value → Sg → Prop} (hy : plainName M.1.cls = true) (hlen : (lg_sl As).length ≤ M.2.2.1) (hlv : lv_args 0 As = lv)
    (hR : Rn G M (rmD d mc ms) (EV G) (Zn G ex2 sh2 Post mc ms) ex sh 0 0 0 lv [] σ) : CtY G M d mc ms ex ex2 sh sh2 As σ Post := by
  intro l hst
  refine Met.ofW (cc := M.2.1) (maxL := M.2.2.1) (ret := M.2.2.2) hy rfl ?_
  intro p e s m args below meth c s₁ B hml hv
  obtain ⟨⟨rfl, hTb, hHw⟩, hTV⟩ := hv
  have hx := B.exec
  have hb := B.bytes
  have hr := B.returns
  have hown : s.vm.findClass M.1.cls = some m.cls := findClass_of_methodNamed B.named
  have hlocks := B.notSynchronized
  have hin : meth.name = M.1.name := (name_of_methodNamed B.named B.method).1
  have hl := lv_entry As (n := M.2.2.1) hlen
  rw [lg_entry_eq]
  rw [hlv] at hl
  exact hR p l e s m _ below meth c s.heap [] _ ⟨hx, hb, hml, hr, hown, fun w hw => word_at (State.WarmedH.refl s) (TBG_gd hw) (hTb.2.1 w hw), hTb, hHw, va_S.rf, hl, hlocks, hin, hst, hTV⟩
/-- a call that throws nothing, of a method that may -/
theorem r_callXn {M2 : MI} {d2 b ci idx N : Nat} {fks : List FK} {C : String} {T : u_T} {As rest st0 : List Value} {Post : Option Value → Sg → Prop} {PX : String → Sg → Prop} (hE : ∀ l s args c, E l s args c → l.stackTraces = false ∧ TV G s)
    (hC : CtX G M2 d2 sh (Rf G b :: As) σ Post PX) (hno : ∀ X τ, ¬ PX X τ) (hdg : decode M.2.1 pc = .ok (.invokevirtual idx, 3)) (sv : SV M2 As.length) (hlink : Cond.methodLink M.1.cls idx M2.1 ∈ TBG)
    (hs : sh[b]? = some (.inl (ci, fks))) (hc : vwCl[ci]? = some (C, T, N)) (hcl : C = M2.1.cls) (hst : st0 = As.reverse ++ Rf G b :: rest) (hR : d2 + 1 ≤ R.frames ∧ 8 + (M2.2.2.1 + 11) + 40 * d2 ≤ R.locals) (hcat : (rest.map fun v => v.category).sum ≤ 8) (hf : k + 1 ≤ R.cells ∧ n + 6 ≤ R.slots)
    (kk : ∀ (r : Option Value) (σ' : Sg), Post r σ' → Rn G M R E Z false sh (k + 1) (n + 6) (pc + 3) lv (r.toList ++ rest) σ') : Rn G M R E Z false sh k n pc lv st0 σ := by
  intro p l e s m args below meth c H locs ls F
  obtain ⟨hst9, hTV⟩ := hE _ _ _ _ F.2.2.2.2.2.2.2.2.2.2.2.2
  obtain ⟨w1, w2, w3, w4, hy⟩ := sv
  obtain ⟨r9, h1, cell, q1, q2, q3, q4⟩ := F.hw.1 b _ (wl_get hs)
  obtain ⟨hfc, -⟩ := (F.tb.1.1 ci _ hc).2
  have run : vx_Run p l e R s m args below meth c H locs k n 1 6 (F0 m pc ls st0) rest (Qn G false sh Post (Rf G b :: As).toArray) (XCd G false sh PX) (Aq G) := by
    refine vx_runV (Ts := TBG) (own := M.1.cls) (C := M2.1.cls) (As := As) ⟨F.1, F.2.1, F.2.2.1, F.own, F.wd⟩ (hC l hst9) (cwV As.length F.wd (gi_of ?_) rfl rfl rfl ⟨rfl, hy⟩ hR) ⟨PX_blind, ⟨cell, q1, by rw [q3]; rfl, by rw [← hcl, hfc, q2]⟩, fun U hU hW => ⟨Pn_at F U hU hW, hTV.1.1.warm hW (fun a h1 h2 => by rw [hU]; exact F.fs.2.1 a h1 h2)⟩⟩ rfl rfl F.hl.1 hst ?_ hdg hf
    · intro w hw
      simp only [wsV, List.mem_append, List.mem_cons, List.not_mem_nil, or_false] at hw
      rcases hw with (rfl | rfl | rfl | rfl) | rfl
      · exact hlink
      · exact w1
      · exact w2
      · exact w3
      · exact w4
    · show 2 * 0 + _ ≤ 8
      omega
  have hS := F.fs
  intro T9 hT X
  rcases run T9 hT X with ⟨v, st₀, t, T', L, h0, X', hL, e1, e2, ⟨⟨r, σ', hv, hp, hw⟩, hz, hk⟩, stp⟩ | ⟨q, st₀, t, T', L, Ex, ce, h0, X', hL, e1, e2, ⟨⟨τ, hp, hw⟩, hz, hk⟩, hce, hcv, hcl2, stp⟩
  · cases hv
    rw [h0] at hz hk
    obtain ⟨t2, a1, b1⟩ := kk v σ' hp p l e s m args below meth c T'.heap (locs ++ L) ls (F.hp (by rw [e1]; exact hw)
      ⟨Nat.le_trans hS.1 (by rw [e1]; exact hz), fun q h1 h2 => by rw [e1, hk q (Nat.lt_of_lt_of_le h1 hS.1) h2]; exact hS.2.1 q h1 h2, fun q hq => by
        rcases List.mem_append.mp hq with h | h
        · exact hS.2.2 q h
        · exact hL q h⟩) T' rfl X'
    exact ⟨t2, stp t2 a1, b1⟩
  · exact absurd hp (hno _ _)
/-- a call of a method of the law that catches -/
theorem r_callW {M2 : MI} {hh : HH} {d2 idx : Nat} {As rest st0 : List Value} {Post : Option Value → Sg → Prop} (hE : ∀ l s args c, E l s args c → l.stackTraces = false ∧ TV G s) (hC : CtW G M2 hh d2 sh As σ Post) (hdg : decode M.2.1 pc = .ok (.invokestatic idx, 3))
    (w1 : Cond.static M2.1 ∈ TBG) (w2 : Cond.initialized M2.1.cls ∈ TBG) (w3 : Cond.codeWith M2.1 M2.2.1 M2.2.2.1 M2.2.2.2 hh ∈ TBG) (hy : M2.1.cls ≠ "java/lang/invoke/MethodHandle" ∧ M2.1.cls ≠ "java/lang/invoke/VarHandle" ∧ (parseMethodDescriptor M2.1.desc).map (fun d => d.parameters.length) = some As.length)
    (hlink : Cond.methodLink M.1.cls idx M2.1 ∈ TBG) (hst : st0 = As.reverse ++ rest) (hR : d2 + 1 ≤ R.frames ∧ 8 + (M2.2.2.1 + 11) + 40 * d2 ≤ R.locals) (hcat : (rest.map fun v => v.category).sum ≤ 8) (hf : k + 1 ≤ R.cells ∧ n + 6 ≤ R.slots)
    (kk : ∀ (r : Option Value) (σ' : Sg), Post r σ' → Rn G M R E Z false sh (k + 1) (n + 6) (pc + 3) lv (r.toList ++ rest) σ') : Rn G M R E Z false sh k n pc lv st0 σ := by
  refine r_run (mc := 1) (ms := 6) (As := As.toArray) (fun p l e s m args below meth c H locs ls F => ?_) kk
  obtain ⟨h1, h2⟩ := hE _ _ _ _ F.2.2.2.2.2.2.2.2.2.2.2.2
  refine vx_runSW (Ts := TBG) (own := M.1.cls) (As := As) ⟨F.1, F.2.1, F.2.2.1, F.own, F.wd⟩ (hC l h1) (vx_cwSW As.length F.wd (gi_of ?_) rfl rfl rfl hy hR) ⟨PW_blind, fun U hU hW => ⟨Pn_at F U hU hW, h2.1.warm hW (fun a g1 g2 => by rw [hU]; exact F.fs.2.1 a g1 g2)⟩⟩ rfl rfl F.hl.1 hst ?_ hdg hf
  · intro w hw
    simp only [va_wsS, List.mem_append, List.mem_cons, List.not_mem_nil, or_false] at hw
    rcases hw with (rfl | rfl | rfl) | rfl
    · exact hlink
    · exact w1
    · exact w2
    · exact w3
  · show 2 * 0 + _ ≤ 8
    omega
/-- a call of another method of the law -/
theorem r_callY {M2 : MI} {d2 mc ms idx : Nat} {sh2 : List Ob} {As rest st0 : List Value} {Post : Option Value → Sg → Prop} (hE : ∀ l s args c, E l s args c → l.stackTraces = false ∧ TV G s)
    (hC : CtY G M2 d2 mc ms ex ex sh sh2 As σ Post) (hdg : decode M.2.1 pc = .ok (.invokestatic idx, 3)) (sv : SS M2 As.length) (hlink : Cond.methodLink M.1.cls idx M2.1 ∈ TBG)
    (hst : st0 = As.reverse ++ rest) (hR : d2 + 1 ≤ R.frames ∧ 8 + (M2.2.2.1 + 11) + 40 * d2 ≤ R.locals) (hcat : (rest.map fun v => v.category).sum ≤ 8) (hf : k + mc ≤ R.cells ∧ n + ms ≤ R.slots)
    (kk : ∀ (r : Option Value) (σ' : Sg), Post r σ' → Rn G M R E Z ex sh2 (k + mc) (n + ms) (pc + 3) lv (r.toList ++ rest) σ') : Rn G M R E Z ex sh k n pc lv st0 σ := by
  refine r_run (mc := mc) (ms := ms) (As := As.toArray) (fun p l e s m args below meth c H locs ls F => ?_) kk
  obtain ⟨hs1, h2⟩ := hE _ _ _ _ F.2.2.2.2.2.2.2.2.2.2.2.2
  obtain ⟨w1, w2, w3, hy⟩ := sv
  refine va_runS (Ts := TBG) (own := M.1.cls) (As := As) ⟨F.1, F.2.1, F.2.2.1, F.own, F.wd⟩ (hC l hs1) (va_cwS As.length F.wd (gi_of ?_) rfl rfl rfl hy hR) ⟨PV_blind, fun U hU hW => ⟨Pn_at F U hU hW, h2.warm hW (fun a g1 g2 => by rw [hU]; exact F.fs.2.1 a g1 g2)⟩⟩ rfl rfl F.hl.1 hst ?_ hdg hf
  · intro w hw
    simp only [va_wsS, List.mem_append, List.mem_cons, List.not_mem_nil, or_false] at hw
    rcases hw with (rfl | rfl | rfl) | rfl
    · exact hlink
    · exact w1
    · exact w2
    · exact w3
  · show 2 * 0 + _ ≤ 8
    omega
end YCALL

def R_law : String := "LeastRowsLaw"
def lw_P (b : Addr) (xs : List Int32) (args : Array Value) (s : State) : Prop := args = #[.ref b] ∧ s.IntsAt b xs ∧ xs.length ≤ 260 ∧ (Jvm.Cond.and given_1 narrow_1).before args s = true
/-- what a walk over the start with the record d0 says of its end, said of the start itself -/
theorem lw_closed {s t : State} {o : Outcome} {d0 : Drawn} {L : List Loc} {k n : Nat} (hd0 : s.drawn.sameBut d0 lw_cs) (hv : ∃ v, o = .returned v) (hW : (s.setDrawn d0).WarmedH t.vm) (hs : (s.setDrawn d0).sameButNew ({ t with vm := s.vm } : State) L k n) : State.butDraws s t lw_cs (fun t1 => Framed s o t1 L k n) := by
  have h2 : t.drawn = d0 := congrArg State.drawn hs.1
  refine ⟨⟨hv, hW, State.sameButNew.setDrawn hs s.drawn⟩, ?_, by decide⟩
  rw [h2]
  exact hd0
def lw_Q (_ : Array Value) (s : State) (o : Outcome) (t : State) : Prop := o = .returned (some (.int 1)) ∧ State.butDraws s t lw_cs (fun t1 => Framed s o t1 [] 600104 7301314)
def lw_Z (below : List Frame) (a : Array Value) (s : State) : State → Prop := fun t => ∃ o, t.status = .running ∧ Ended t below o ∧ lw_Q a s o t
/-- the law's own end, with 1 on the stack, nothing written that was there before, its room as the claim has it; d0: the record of draws at this point (at the entry s.drawn: begin with 'refine W.base ?_' and 'have hd0 := Drawn.sameBut.refl s.drawn lw_cs') -/
theorem lw_ret {p : Program} {l : Launch} {e : Env} {s : State} {m : MethodId} {below : List Frame} {meth : Method} {c : Code} {b : Nat} {d0 : Drawn} (hd0 : s.drawn.sameBut d0 lw_cs) (hx : p.tables.exec = Jvm.exec) (hb : c.code = code) (hr : meth.sig.returnType = ret) (hlocks : meth.locks = false) {pc : Nat} {H : Heap} {ls : Array Slot} (hdg : decode code pc = .ok (.ireturn, 1)) : W p l e room_1 (s.setDrawn d0) m #[Value.ref b] below meth c H [] 600104 7301314 (lw_Z below #[Value.ref b] s) (F0 m pc ls [.int 1]) := by
  intro T hT X
  obtain ⟨fs, hret, hrun, hended, hW, hframe⟩ := X.leave (v := some (.int 1)) (hlocks := hlocks) (fun h => by rw [hr] at h; cases h)
  have hmeth' : T.vm.method? m = some meth := X.method'
  refine ⟨T.setFrames fs, ?_, .returned (some (.int 1)), hrun, hended, rfl, lw_closed hd0 ⟨_, rfl⟩ hW hframe⟩
  jvm_step X.here [X.here.top, hx, hb, hdg, hmeth', hr, ret, narrow_b1]
  (try refine ⟨rfl, ?_⟩); (try refine ⟨rfl, ?_⟩)
  first | (intro acts; rw [hret _ acts rfl rfl rfl]) | rw [hret _ _ rfl rfl rfl]
  exact Steps.refl _
/-- what holds at the law's entry: the machine, the code, the tables' words (any of lw_tbl by 'hts w (by decide +kernel)'), the script of L ints xs at the cell b, what the Statement gives of the start (any of its parts by flat_of_before) -/
def lw_At (p : Program) (s : State) (m : MethodId) (meth : Method) (c : Code) (b L : Nat) (xs : Nat → Int32) : Prop :=
  p.tables.exec = Jvm.exec ∧ c.code = code ∧ meth.sig.returnType = ret ∧ c.maxLocals = 14 ∧ s.vm.findClass R_law = some m.cls ∧ (∀ w ∈ lw_tbl, w.before #[Value.ref b] s = true) ∧ va_X b L xs s s.heap ∧ b < s.heap.size ∧ meth.locks = false ∧ (Jvm.Cond.and given_1 narrow_1).before #[Value.ref b] s = true


/-! ## the law -/
abbrev mL_law : MI := (yL_law, cL_law, 14, ret)
def EL (G : GT) (b L : Nat) (xs : Nat → Int32) : ET := fun l s args _ => (l.stackTraces = false ∧ TV G s) ∧ args = #[Value.ref b] ∧ va_X b L xs s s.heap ∧ b < s.heap.size ∧ G.1 - G.2.2.2.2.2 = s.heap.size
theorem EL_ok {G : GT} {b L : Nat} {xs : Nat → Int32} : ∀ (l : Launch) (s : State) (args : Array Value) (c : Code), EL G b L xs l s args c → l.stackTraces = false ∧ TV G s := fun _ _ _ _ h => h.1
theorem EL_ao {G : GT} {b L : Nat} {xs : Nat → Int32} : ∀ (l : Launch) (s : State) (args : Array Value) (c : Code), EL G b L xs l s args c → va_AO RX5 s := fun _ _ _ _ h => h.1.2.2
def ZL : ZT := fun below args s => lw_Z below args s
def ED (G : GT) (b L : Nat) (xs : Nat → Int32) : ET := fun _ s _ _ => va_X b L xs s s.heap ∧ b < s.heap.size ∧ ¬ Aq G b
theorem EL_ed {G : GT} {b L : Nat} {xs : Nat → Int32} : ∀ (l : Launch) (s : State) (args : Array Value) (c : Code), EL G b L xs l s args c → va_X b L xs s s.heap ∧ b < s.heap.size ∧ ¬ Aq G b := fun _ _ _ _ h => ⟨h.2.2.1, h.2.2.2.1, Nat.not_le.mpr (by rw [h.2.2.2.2]; exact h.2.2.2.1)⟩
theorem ED_ed {G : GT} {b L : Nat} {xs : Nat → Int32} : ∀ (l : Launch) (s : State) (args : Array Value) (c : Code), ED G b L xs l s args c → va_X b L xs s s.heap ∧ b < s.heap.size ∧ ¬ Aq G b := fun _ _ _ _ h => h
def XX (xs : Nat → Int32) (i : Int) : Int := (xs i.toNat).toInt
def CtD (G : GT) (M : MI) (b L : Nat) (xs : Nat → Int32) (d : Nat) (sh : List Ob) (args : List Value) (σ : Sg) (Post : Option Value → Sg → Prop) : Prop :=
  ∀ l : Launch, Met l M.1 [Cond.code M.1 M.2.1 M.2.2.1 M.2.2.2] (rmD d 0 0) (fun a U => Pn G false sh args σ a U ∧ va_X b L xs U U.heap ∧ b < U.heap.size ∧ ¬ Aq G b) (Qn G false sh Post) 0 0 (Aq G)
theorem PD_blind {G : GT} {b L : Nat} {xs : Nat → Int32} {ex : Bool} {sh : List Ob} {As : List Value} {σ : Sg} : FrameBlind (fun a U => Pn G ex sh As σ a U ∧ va_X b L xs U U.heap ∧ b < U.heap.size ∧ ¬ Aq G b) := fun a U g mk q => ⟨Pn_blind a U g mk q.1, va_X.moved (u := U) (U := U.calling g mk a) (H := U.heap) (Vm.Alike.refl U.vm) q.2.1, q.2.2⟩
section LAWR
variable {G : GT} {M : MI} {R : Room} {E : ET} {Z : ZT} {ex : Bool} {sh sh2 : List Ob} {k n : Nat} {pc : Nat} {lv lv' : List (Nat × Value)} {st : List Value} {σ : Sg} {b L : Nat} {xs : Nat → Int32}
theorem ctd_of {d : Nat} {As : List Value} {Post : Option Value → Sg → Prop} (hy : plainName M.1.cls = true) (hlen : (lg_sl As).length ≤ M.2.2.1) (hlv : lv_args 0 As = lv)
    (hR : Rn G M (rmD d 0 0) (ED G b L xs) (Zn G false sh Post 0 0) false sh 0 0 0 lv [] σ) : CtD G M b L xs d sh As σ Post := by
  intro l
  refine Met.ofW (cc := M.2.1) (maxL := M.2.2.1) (ret := M.2.2.2) hy rfl ?_
  intro p e s m args below meth c s₁ B hml hv
  obtain ⟨⟨rfl, hTb, hHw⟩, hTV⟩ := hv
  have hx := B.exec
  have hb := B.bytes
  have hr := B.returns
  have hown : s.vm.findClass M.1.cls = some m.cls := findClass_of_methodNamed B.named
  have hlocks := B.notSynchronized
  have hin : meth.name = M.1.name := (name_of_methodNamed B.named B.method).1
  have hl := lv_entry As (n := M.2.2.1) hlen
  rw [lg_entry_eq]
  rw [hlv] at hl
  exact hR p l e s m _ below meth c s.heap [] _ ⟨hx, hb, hml, hr, hown, fun w hw => word_at (State.WarmedH.refl s) (TBG_gd hw) (hTb.2.1 w hw), hTb, hHw, va_S.rf, hl, hlocks, hin, hTV⟩
theorem r_callD {M2 : MI} {d2 idx : Nat} {As rest st0 : List Value} {Post : Option Value → Sg → Prop} (hE : ∀ l s args c, E l s args c → va_X b L xs s s.heap ∧ b < s.heap.size ∧ ¬ Aq G b)
    (hC : CtD G M2 b L xs d2 sh As σ Post) (hdg : decode M.2.1 pc = .ok (.invokestatic idx, 3)) (sv : SS M2 As.length) (hlink : Cond.methodLink M.1.cls idx M2.1 ∈ TBG)
    (hst : st0 = As.reverse ++ rest) (hR : d2 + 1 ≤ R.frames ∧ 8 + (M2.2.2.1 + 11) + 40 * d2 ≤ R.locals) (hcat : (rest.map fun v => v.category).sum ≤ 8) (hf : k + 0 ≤ R.cells ∧ n + 0 ≤ R.slots)
    (kk : ∀ (r : Option Value) (σ' : Sg), Post r σ' → Rn G M R E Z false sh (k + 0) (n + 0) (pc + 3) lv (r.toList ++ rest) σ') : Rn G M R E Z false sh k n pc lv st0 σ := by
  refine r_run (mc := 0) (ms := 0) (As := As.toArray) (fun p l e s m args below meth c H locs ls F => ?_) kk
  obtain ⟨h1, h2, h3⟩ := hE _ _ _ _ F.2.2.2.2.2.2.2.2.2.2.2.2
  obtain ⟨w1, w2, w3, hy⟩ := sv
  refine va_runS (Ts := TBG) (own := M.1.cls) (As := As) ⟨F.1, F.2.1, F.2.2.1, F.own, F.wd⟩ (hC l) (va_cwS As.length F.wd (gi_of ?_) rfl rfl rfl hy hR) ⟨PD_blind, fun U hU hW => ⟨Pn_at F U hU hW, (va_X.moved hW.alike h1).kept (by rw [hU]; exact F.fs.2.1 b h2 h3), Nat.lt_of_lt_of_le h2 (by rw [hU]; exact F.fs.1), h3⟩⟩ rfl rfl F.hl.1 hst ?_ hdg hf
  · intro w hw
    simp only [va_wsS, List.mem_append, List.mem_cons, List.not_mem_nil, or_false] at hw
    rcases hw with (rfl | rfl | rfl) | rfl
    · exact hlink
    · exact w1
    · exact w2
    · exact w3
  · show 2 * 0 + _ ≤ 8
    omega
theorem r_slen (hE : ∀ l s args c, E l s args c → va_X b L xs s s.heap ∧ b < s.heap.size ∧ ¬ Aq G b) (hdg : decode M.2.1 pc = .ok (.arraylength, 1)) (kk : Rn G M R E Z ex sh k n (pc + 1) lv (I (L : Int) :: st) σ) : Rn G M R E Z ex sh k n pc lv (.ref b :: st) σ := by
  intro p l e s m args below meth c H locs ls F
  obtain ⟨h4, h5, h6⟩ := hE _ _ _ _ F.2.2.2.2.2.2.2.2.2.2.2.2
  refine va_slen F.1 F.2.1 h4 h5 h6 F.fs hdg ?_
  have h := kk p l e s m args below meth c H locs ls F
  unfold I at h
  rw [Int32.ofInt_eq_ofNat] at h
  exact h
theorem r_sld (hE : ∀ l s args c, E l s args c → va_X b L xs s s.heap ∧ b < s.heap.size ∧ ¬ Aq G b) {i : Int} (hdg : decode M.2.1 pc = .ok (.iaload, 1)) (hi : 0 ≤ i ∧ i < (L : Int) ∧ (L : Int) ≤ 2147483647) (kk : Rn G M R E Z ex sh k n (pc + 1) lv (I (XX xs i) :: st) σ) : Rn G M R E Z ex sh k n pc lv (I i :: .ref b :: st) σ := by
  intro p l e s m args below meth c H locs ls F
  obtain ⟨h4, h5, h6⟩ := hE _ _ _ _ F.2.2.2.2.2.2.2.2.2.2.2.2
  refine va_sld F.1 F.2.1 h4 h5 h6 F.fs (oI_in hi) hdg ?_
  have h := kk p l e s m args below meth c H locs ls F
  have hi9 : (Int32.ofInt i).toNatClampNeg = i.toNat := by have := oI_nat (z := i) (by omega) (by omega); omega
  unfold I XX at h
  rw [Int32.ofInt_toInt, ← hi9] at h
  exact h
theorem r_aloadb_n {q : Fin 4} {i : Nat} {x : Addr} (hdg : decode M.2.1 pc = .ok (.aload_n q, 1)) (hi : (q : Nat) = i) (hl : lv.lookup i = some (.ref x)) (kk : Rn G M R E Z ex sh k n (pc + 1) lv (.ref x :: st) σ) : Rn G M R E Z ex sh k n pc lv st σ := fun p l e s m args below meth c H locs ls F => lv_aload_n F.1 F.2.1 hdg hi (lkp F.hl hl) (kk p l e s m args below meth c H locs ls F)
/-- numbers of any kind -/
theorem i32_bd (w : Int32) : -2147483648 ≤ w.toInt ∧ w.toInt ≤ 2147483647 := by
  have h1 := Int32.minValue_le_toInt w
  have h2 := Int32.toInt_le w
  have e1 : Int32.minValue.toInt = -2147483648 := by decide
  have e2 : Int32.maxValue.toInt = 2147483647 := by decide
  rw [e1] at h1
  rw [e2] at h2
  exact ⟨h1, h2⟩
theorem r_anyI {w : Int32} (kk : ∀ z : Int, -2147483648 ≤ z ∧ z ≤ 2147483647 → Rn G M R E Z ex sh k n pc lv (I z :: st) σ) : Rn G M R E Z ex sh k n pc lv (.int w :: st) σ := by
  have h := kk w.toInt (i32_bd w)
  unfold I at h
  rw [Int32.ofInt_toInt] at h
  exact h
theorem r_ishrA {x y : Int} (hdg : decode M.2.1 pc = .ok (.ishr, 1)) (kk : ∀ z : Int, -2147483648 ≤ z ∧ z ≤ 2147483647 → Rn G M R E Z ex sh k n (pc + 1) lv (I z :: st) σ) : Rn G M R E Z ex sh k n pc lv (I y :: I x :: st) σ := fun p l e s m args below meth c H locs ls F =>
  lv_ishr F.1 F.2.1 hdg (r_anyI kk p l e s m args below meth c H locs ls F)
theorem r_ixorA {x y : Int} (hdg : decode M.2.1 pc = .ok (.ixor, 1)) (kk : ∀ z : Int, -2147483648 ≤ z ∧ z ≤ 2147483647 → Rn G M R E Z ex sh k n (pc + 1) lv (I z :: st) σ) : Rn G M R E Z ex sh k n pc lv (I y :: I x :: st) σ := fun p l e s m args below meth c H locs ls F =>
  lv_ixor F.1 F.2.1 hdg (r_anyI kk p l e s m args below meth c H locs ls F)
theorem r_andM {x : Int} (hdg : decode M.2.1 pc = .ok (.iand, 1)) (kk : ∀ z : Int, 0 ≤ z ∧ z ≤ 2147483647 → Rn G M R E Z ex sh k n (pc + 1) lv (I z :: st) σ) : Rn G M R E Z ex sh k n pc lv (I 2147483647 :: I x :: st) σ := by
  intro p l e s m args below meth c H locs ls F
  refine lv_iand F.1 F.2.1 hdg ?_
  obtain ⟨w, hw⟩ : ∃ w : Int32, w = Int32.ofInt x &&& Int32.ofInt 2147483647 := ⟨_, rfl⟩
  have hn : w.toBitVec.toNat ≤ 2147483647 := by
    rw [hw, Int32.toBitVec_and, BitVec.toNat_and]
    exact Nat.and_le_right
  have hi : w.toInt = (w.toBitVec.toNat : Int) := by
    rw [← Int32.toInt_toBitVec]
    exact BitVec.toInt_eq_toNat_of_lt (by omega)
  have h := kk w.toInt (by omega) p l e s m args below meth c H locs ls F
  unfold I at h
  rw [Int32.ofInt_toInt, hw] at h
  exact h
theorem r_lcmpE {x : Int} (hdg : decode M.2.1 pc = .ok (.lcmp, 1)) (kk : Rn G M R E Z ex sh k n (pc + 1) lv (I 0 :: st) σ) : Rn G M R E Z ex sh k n pc lv (Lg x :: Lg x :: st) σ := by
  intro p l e s m args below meth c H locs ls F
  refine W.lcmp F.1 F.2.1 hdg ?_
  have h : lg_cmp (Int64.ofInt x) (Int64.ofInt x) = Int32.ofInt 0 := by
    unfold lg_cmp
    rw [if_neg (by rw [gt_iff_lt, Int64.lt_iff_toInt_lt]; omega), if_pos rfl]
    rfl
  rw [h]
  exact kk p l e s m args below meth c H locs ls F
theorem r_icmp_eqE {x y : Int} {off : Int} {tgt : Nat} (hdg : decode M.2.1 pc = .ok (.if_icmp .eq off, 3)) (ht : (pc : Int) + off = (tgt : Int)) (h : x = y) (kk : Rn G M R E Z ex sh k n tgt lv st σ) : Rn G M R E Z ex sh k n pc lv (I y :: I x :: st) σ :=
  fun p l e s m args below meth c H locs ls F => lv_icmp_eq F.1 F.2.1 hdg ht (fun _ => kk p l e s m args below meth c H locs ls F) (fun q => absurd (by rw [h]) q)
theorem r_icmp_neE {x y : Int} {off : Int} {tgt : Nat} (hdg : decode M.2.1 pc = .ok (.if_icmp .ne off, 3)) (ht : (pc : Int) + off = (tgt : Int)) (h : x = y) (kk : Rn G M R E Z ex sh k n (pc + 3) lv st σ) : Rn G M R E Z ex sh k n pc lv (I y :: I x :: st) σ :=
  fun p l e s m args below meth c H locs ls F => lv_icmp_ne F.1 F.2.1 hdg ht (fun q => absurd (by rw [h]) q) (fun _ => kk p l e s m args below meth c H locs ls F)
theorem r_lshrK {x z : Int} {y : Int} (hdg : decode M.2.1 pc = .ok (.lshr, 1)) (hz : Int64.ofInt x >>> ((Int32.ofInt y).toInt64 &&& 63) = Int64.ofInt z) (kk : Rn G M R E Z ex sh k n (pc + 1) lv (Lg z :: st) σ) : Rn G M R E Z ex sh k n pc lv (I y :: Lg x :: st) σ := fun p l e s m args below meth c H locs ls F => lv_lshr F.1 F.2.1 hdg hz (kk p l e s m args below meth c H locs ls F)
theorem r_landK {x y z : Int} (hdg : decode M.2.1 pc = .ok (.land, 1)) (hz : Int64.ofInt x &&& Int64.ofInt y = Int64.ofInt z) (kk : Rn G M R E Z ex sh k n (pc + 1) lv (Lg z :: st) σ) : Rn G M R E Z ex sh k n pc lv (Lg y :: Lg x :: st) σ := fun p l e s m args below meth c H locs ls F => lv_land F.1 F.2.1 hdg (by have h := kk p l e s m args below meth c H locs ls F; rwa [Lg, ← hz] at h)
theorem r_l2iK {x z : Int} (hdg : decode M.2.1 pc = .ok (.l2i, 1)) (hz : (Int64.ofInt x).toInt32 = Int32.ofInt z) (kk : Rn G M R E Z ex sh k n (pc + 1) lv (I z :: st) σ) : Rn G M R E Z ex sh k n pc lv (Lg x :: st) σ := fun p l e s m args below meth c H locs ls F => lv_l2i F.1 F.2.1 hdg hz (kk p l e s m args below meth c H locs ls F)
/-- a test of the law, in a world of its own -/
theorem r_callSm {M2 : MI} {d2 mc ms idx : Nat} {rest st0 : List Value} {Post : Option Value → Sg → Prop}
    (hC : ∀ G' : GT, CtY G' M2 d2 mc ms true false [] sh2 [] (fun _ _ => 0) Post) (hdg : decode M.2.1 pc = .ok (.invokestatic idx, 3)) (sv : SS M2 0) (hlink : Cond.methodLink M.1.cls idx M2.1 ∈ TBG)
    (hst : st0 = rest) (hR : d2 + 1 ≤ R.frames ∧ 8 + (M2.2.2.1 + 11) + 40 * d2 ≤ R.locals) (hcat : (rest.map fun v => v.category).sum ≤ 8) (hf : k + mc ≤ R.cells ∧ n + ms ≤ R.slots)
    (kk : ∀ (r : Option Value) (σ' : Sg), Post r σ' → Rn G M R (EL G b L xs) Z false [] (k + mc) (n + ms) (pc + 3) lv (r.toList ++ rest) σ) : Rn G M R (EL G b L xs) Z false [] k n pc lv st0 σ := by
  intro p l e s m args below meth c H locs ls F T9 hT X
  obtain ⟨⟨hs1, h2⟩, -, -, -, hB⟩ := F.2.2.2.2.2.2.2.2.2.2.2.2
  obtain ⟨w1, w2, w3, hy⟩ := sv
  have hS := F.fs
  have hsub : ∀ q, Aq (reb G H.size 0) q → Aq G q := fun q h => Nat.le_trans (Nat.le_of_eq hB) (Nat.le_trans hS.1 (show H.size ≤ q from h))
  have run : va_Run p l e R s m args below meth c H locs k n mc ms (F0 m pc ls st0) rest (Qn (reb G H.size 0) false sh2 Post #[]) (Aq (reb G H.size 0)) := by
    refine va_runS (Ts := TBG) (own := M.1.cls) (As := []) ⟨F.1, F.2.1, F.2.2.1, F.own, F.wd⟩ (hC _ l hs1) (va_cwS 0 F.wd (gi_of ?_) rfl rfl rfl hy hR) ⟨PV_blind, fun U hU hW => ⟨⟨rfl, ?_, ?_⟩, ?_⟩⟩ rfl rfl F.hl.1 hst ?_ hdg hf
    · intro w hw
      simp only [va_wsS, List.mem_append, List.mem_cons, List.not_mem_nil, or_false] at hw
      rcases hw with (rfl | rfl | rfl) | rfl
      · exact hlink
      · exact w1
      · exact w2
      · exact w3
    · exact (F.tb.warm hW (by rw [hU]; exact hS.1)).reb (by rw [hU]; exact Nat.le_refl _)
    · exact hw_nilT (by rw [hU]; rfl)
    · exact (h2.warm hW (fun a g1 g2 => by rw [hU]; exact hS.2.1 a g1 g2)).mono hsub
    · show 2 * 0 + _ ≤ 8
      omega
  obtain ⟨v, st₀, t, T', L9, h0, X', hL, e1, e2, ⟨⟨r, σ', hv, hp, hw⟩, hz, hk⟩, stp⟩ := run T9 hT X
  cases hv
  rw [h0] at hz hk
  obtain ⟨t2, a1, b1⟩ := kk v σ' hp p l e s m args below meth c T'.heap (locs ++ L9) ls (F.hp hw_nil
    ⟨Nat.le_trans hS.1 (by rw [e1]; exact hz), fun q h1 h2 => by rw [e1, hk q (Nat.lt_of_lt_of_le h1 hS.1) (fun h => h2 (hsub q h))]; exact hS.2.1 q h1 h2, fun q hq => by
      rcases List.mem_append.mp hq with h | h
      · exact hS.2.2 q h
      · exact hsub _ (hL q h)⟩) T' rfl X'
  exact ⟨t2, stp t2 a1, b1⟩
/-- a world of its own from here on -/
theorem r_switch (kk : ∀ G' : GT, Rn G' M R (EL G' b L xs) Z true [] k n pc lv st σ) : Rn G M R (EL G b L xs) Z false [] k n pc lv st σ := by
  intro p l e s m args below meth c H locs ls F
  obtain ⟨a1, a2, a3, a4, a5, a6, a7, a8, a9, a10, a11, a12, ⟨⟨b1, b2⟩, b3, b4, b5, b6⟩⟩ := F
  have hle : s.heap.size ≤ H.size := a9.1
  have hA : Aq (reb G H.size (H.size - s.heap.size)) = Aq G := by
    funext q
    show (H.size - (H.size - s.heap.size) ≤ q) = (G.1 - G.2.2.2.2.2 ≤ q)
    rw [b6, Nat.sub_sub_self hle]
  have hB : H.size - (H.size - s.heap.size) = s.heap.size := Nat.sub_sub_self hle
  refine kk (reb G H.size (H.size - s.heap.size)) p l e s m args below meth c H locs ls ⟨a1, a2, a3, a4, a5, a6, a7.reb (Nat.le_of_eq hB), hw_nilT rfl, by rw [hA]; exact a9, a10, a11, a12, ⟨b1, b2.mono (fun q h => by rw [← hA]; exact h)⟩, b3, b4, b5, hB⟩
theorem r_lawend (hdg : decode cL_law pc = .ok (.ireturn, 1)) (hk : k ≤ 600104) (hn : n ≤ 7301314) : Rn G mL_law room_1 (EL G b L xs) ZL ex sh k n pc lv [I 1] σ := by
  intro p l e s m args below meth c H locs ls F
  obtain ⟨-, h3, h4, h5, h6⟩ := F.2.2.2.2.2.2.2.2.2.2.2.2
  subst h3
  refine W.widen hk hn ?_
  refine va_forget (fun q hq => by rw [← h6]; exact F.fs.2.2 q hq) ?_
  refine W.base ?_
  exact lw_ret (Drawn.sameBut.refl s.drawn lw_cs) F.1 F.2.1 F.2.2.2.1 F.lk hdg
end LAWR

