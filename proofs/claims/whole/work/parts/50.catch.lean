
def XC2 : List (String × String) := [(xE1, xE2), (xE1, xE3), (xE2, xE1), (xE2, xE3), (xE3, xE1), (xE3, xE2)]
def XSW : List Cond := [.castable xE1 xE1, .castable xE2 xE2, .castable xE3 xE3]
theorem XSW_form : ∀ w ∈ XSW, ∃ (a b : String), w = .castable a b := by
  simp only [XSW, List.forall_mem_cons]
  exact ⟨⟨_, _, rfl⟩, ⟨_, _, rfl⟩, ⟨_, _, rfl⟩, fun _ h => absurd h List.not_mem_nil⟩
def TW (G : GT) (s : State) : Prop := TX G s ∧ (∀ w ∈ XSW, va_Nw w s) ∧ ∀ q ∈ XC2, va_Nc q.1 q.2 s
theorem TW.warm {G : GT} {s U : State} (h : TW G s) (hW : s.WarmedH U.vm) (hq : ∀ a : Nat, a < s.heap.size → ¬ Aq G a → U.heap[a]? = s.heap[a]?) : TW G U := by
  obtain ⟨h1, h2, h3⟩ := h
  refine ⟨h1.warm hW hq, fun w hw => ?_, fun q hw => (h3 q hw).moved hW.alike⟩
  obtain ⟨a, b, rfl⟩ := XSW_form w hw
  exact (h2 _ hw).warmC hW
theorem PX_blind {G : GT} {ex : Bool} {sh : List Ob} {As : List Value} {σ : Sg} : FrameBlind (fun a U => Pn G ex sh As σ a U ∧ TX G U) := fun a U g mk q => ⟨Pn_blind a U g mk q.1, q.2.warm (U := U.calling g mk a) (State.WarmedH.refl U) (fun _ _ _ => rfl)⟩
theorem PW_blind {G : GT} {ex : Bool} {sh : List Ob} {As : List Value} {σ : Sg} : FrameBlind (fun a U => Pn G ex sh As σ a U ∧ TW G U) := fun a U g mk q => ⟨Pn_blind a U g mk q.1, q.2.warm (U := U.calling g mk a) (State.WarmedH.refl U) (fun _ _ _ => rfl)⟩
abbrev HH : Type := List (Nat × Nat × Nat × Nat)
def EW (G : GT) (hh : HH) : ET := fun l s _ c => l.stackTraces = false ∧ TW G s ∧ c.exceptionTable.toList = tableOf hh
/-- where an exception that is thrown at pc is caught -/
def CtH (M : MI) (hh : HH) (pc : Nat) (E : String) (hpc : Nat) : Prop := ∃ (pre : List ExceptionTableEntry) (x : ExceptionTableEntry) (suf : List ExceptionTableEntry) (nm : String), tableOf hh = pre ++ x :: suf ∧
  (∀ z ∈ pre, covers z pc = false ∨ (z.catchType ≠ 0 ∧ ∃ nm : String, Cond.classLink M.1.cls z.catchType nm ∈ TBG ∧ (E, nm) ∈ XC2)) ∧ covers x pc = true ∧ x.catchType ≠ 0 ∧ Cond.classLink M.1.cls x.catchType nm ∈ TBG ∧ Cond.castable E nm ∈ XSW ∧ hpc = x.handlerPc
def CtW (G : GT) (M : MI) (hh : HH) (d : Nat) (sh : List Ob) (args : List Value) (σ : Sg) (Post : Option Value → Sg → Prop) : Prop :=
  ∀ l : Launch, l.stackTraces = false → Met l M.1 [Cond.codeWith M.1 M.2.1 M.2.2.1 M.2.2.2 hh] (rmD d 1 6) (fun a U => Pn G false sh args σ a U ∧ TW G U) (Qn G false sh Post) 1 6 (Aq G)
theorem vw_ofWH {l : Launch} {y : MethodName} {ws ws' : List Cond} {rm : Room} {Pc : Array Value → State → Prop} {Qc : Array Value → State → Outcome → State → Prop} {mc ms : Nat} {free : Addr → Prop} {cc : ByteArray} {maxL : Nat} {ret : Option FieldType} {hh : HH}
    (hy : plainName y.cls = true) (hw : ws = Cond.codeWith y cc maxL ret hh :: ws')
    (body : ∀ p e s m args below meth c s₁, BodyLoose p l y (headSpec ws rm) cc maxL ret e s m args below meth c s₁ → c.maxLocals = maxL → Pc args s →
      W p l e (headSpec ws rm).room s m args below meth c s.heap [] 0 0 (MQ below Qc args s mc ms free) (entryFrame m args maxL)) : Met l y ws rm Pc Qc mc ms free := by
  refine MetFree.of_bodyS (code := cc) (maxLocals := maxL) (ret := ret) hy ?_ ?_
  · intro args s m h hn
    obtain ⟨m9, meth, c, hn9, h1, h2, h3, h4, -, h5, h6, -⟩ := Cond.codeWith_spec (atoms_spec (ws := ws) h _ (by rw [hw]; exact List.mem_cons_self))
    cases hn.symm.trans hn9
    exact ⟨meth, c, h1, h2, h3, h4, h5, h6⟩
  · intro p e s m args below meth c s₁ B hml hP _
    have hh0 : s₁.heap = s.heap := by rw [B.state]; rfl
    obtain ⟨t, a1, o, b1, b2, b3⟩ := body p e s m args below meth c s₁ B hml hP s₁ hh0 (Stand.of_body B)
    exact ⟨t, o, a1, b1, b2, b3⟩
section CATCH
variable {G : GT} {M : MI} {R : Room} {E : ET} {Z : ZT} {ex : Bool} {sh : List Ob} {k n : Nat} {pc : Nat} {lv lv' : List (Nat × Value)} {st : List Value} {σ : Sg} {hh : HH}
theorem ctw_of {d : Nat} {As : List Value} {Post : Option Value → Sg → Prop} (hy : plainName M.1.cls = true) (hlen : (lg_sl As).length ≤ M.2.2.1) (hlv : lv_args 0 As = lv)
    (hR : Rn G M (rmD d 1 6) (EW G hh) (Zn G false sh Post 1 6) false sh 0 0 0 lv [] σ) : CtW G M hh d sh As σ Post := by
  intro l hst
  refine vw_ofWH (cc := M.2.1) (maxL := M.2.2.1) (ret := M.2.2.2) (hh := hh) hy rfl ?_
  intro p e s m args below meth c s₁ B hml hv
  obtain ⟨⟨rfl, hTb, hHw⟩, hTW⟩ := hv
  have htab := vx_table (x := M.1) B (atoms_spec (ws := [Cond.codeWith M.1 M.2.1 M.2.2.1 M.2.2.2 hh]) B.pre _ List.mem_cons_self)
  have hx := B.exec
  have hb := B.bytes
  have hr := B.returns
  have hown : s.vm.findClass M.1.cls = some m.cls := findClass_of_methodNamed B.named
  have hlocks := B.notSynchronized
  have hin : meth.name = M.1.name := (name_of_methodNamed B.named B.method).1
  have hl := lv_entry As (n := M.2.2.1) hlen
  rw [lg_entry_eq]
  rw [hlv] at hl
  exact hR p l e s m _ below meth c s.heap [] _ ⟨hx, hb, hml, hr, hown, fun w hw => word_at (State.WarmedH.refl s) (TBG_gd hw) (hTb.2.1 w hw), hTb, hHw, va_S.rf, hl, hlocks, hin, hst, hTW, htab⟩
theorem r_callX {M2 : MI} {d2 b ci idx N : Nat} {fks : List FK} {C : String} {T : u_T} {As rest st0 : List Value} {Post : Option Value → Sg → Prop} {PX : String → Sg → Prop}
    (hC : CtX G M2 d2 sh (Rf G b :: As) σ Post PX) (hdg : decode M.2.1 pc = .ok (.invokevirtual idx, 3)) (sv : SV M2 As.length) (hlink : Cond.methodLink M.1.cls idx M2.1 ∈ TBG)
    (hs : sh[b]? = some (.inl (ci, fks))) (hc : vwCl[ci]? = some (C, T, N)) (hcl : C = M2.1.cls) (hst : st0 = As.reverse ++ Rf G b :: rest) (hR : d2 + 1 ≤ R.frames ∧ 8 + (M2.2.2.1 + 11) + 40 * d2 ≤ R.locals) (hcat : (rest.map fun v => v.category).sum ≤ 8) (hf : k + 1 ≤ R.cells ∧ n + 6 ≤ R.slots)
    (kx : ∀ (Ex : String) (τ : Sg), PX Ex τ → ∃ hpc, CtH M hh pc Ex hpc ∧ ∀ q : Addr, Rn G M R (EW G hh) Z false sh (k + 1) (n + 6) hpc lv [.ref q] τ)
    (kk : ∀ (r : Option Value) (σ' : Sg), Post r σ' → Rn G M R (EW G hh) Z false sh (k + 1) (n + 6) (pc + 3) lv (r.toList ++ rest) σ') : Rn G M R (EW G hh) Z false sh k n pc lv st0 σ := by
  intro p l e s m args below meth c H locs ls F
  obtain ⟨hst9, hTW, htab⟩ := F.2.2.2.2.2.2.2.2.2.2.2.2
  obtain ⟨w1, w2, w3, w4, hy⟩ := sv
  obtain ⟨r9, h1, cell, q1, q2, q3, q4⟩ := F.hw.1 b _ (wl_get hs)
  obtain ⟨hfc, -⟩ := (F.tb.1.1 ci _ hc).2
  have run : vx_Run p l e R s m args below meth c H locs k n 1 6 (F0 m pc ls st0) rest (Qn G false sh Post (Rf G b :: As).toArray) (XCd G false sh PX) (Aq G) := by
    refine vx_runV (Ts := TBG) (own := M.1.cls) (C := M2.1.cls) (As := As) ⟨F.1, F.2.1, F.2.2.1, F.own, F.wd⟩ (hC l hst9) (cwV As.length F.wd (gi_of ?_) rfl rfl rfl ⟨rfl, hy⟩ hR) ⟨PX_blind, ⟨cell, q1, by rw [q3]; rfl, by rw [← hcl, hfc, q2]⟩, fun U hU hW => ⟨Pn_at F U hU hW, hTW.1.warm hW (fun a h1 h2 => by rw [hU]; exact F.fs.2.1 a h1 h2)⟩⟩ rfl rfl F.hl.1 hst ?_ hdg hf
    · intro w hw
      simp only [wsV, List.mem_append, List.mem_cons, List.not_mem_nil, or_false] at hw
      rcases hw with (rfl | rfl | rfl | rfl) | rfl
      · exact hlink
      · exact w1
      · exact w2
      · exact w3
      · exact w4
    · show 2 * 0 + _ ≤ 8
      omega
  have hS := F.fs
  intro T9 hT X
  rcases run T9 hT X with ⟨v, st₀, t, T', L, h0, X', hL, e1, e2, ⟨⟨r, σ', hv, hp, hw⟩, hz, hk⟩, stp⟩ | ⟨q, st₀, t, T', L, Ex, ce, h0, X', hL, e1, e2, ⟨⟨τ, hp, hw⟩, hz, hk⟩, hce, hcv, hcl2, stp⟩
  · cases hv
    rw [h0] at hz hk
    obtain ⟨t2, a1, b1⟩ := kk v σ' hp p l e s m args below meth c T'.heap (locs ++ L) ls (F.hp (by rw [e1]; exact hw)
      ⟨Nat.le_trans hS.1 (by rw [e1]; exact hz), fun q h1 h2 => by rw [e1, hk q (Nat.lt_of_lt_of_le h1 hS.1) h2]; exact hS.2.1 q h1 h2, fun q hq => by
        rcases List.mem_append.mp hq with h | h
        · exact hS.2.2 q h
        · exact hL q h⟩) T' rfl X'
    exact ⟨t2, stp t2 a1, b1⟩
  · rw [h0] at hz hk
    obtain ⟨hpc, ⟨pre, x, suf, nm, hsp, hpass, hx, hx0, hlk, hca, rfl⟩, hk2⟩ := kx Ex τ hp
    obtain ⟨t2, a1, b1⟩ := vx_catch F.own pre x suf (htab.trans hsp) (fun z hz => by
      rcases hpass z hz with h | ⟨h, nm9, g1, g2⟩
      · exact Or.inl h
      · exact Or.inr ⟨h, nm9, F.wd _ g1, hTW.2.2 _ g2⟩) hx hx0 (F.wd _ hlk) ((hTW.2.1 _ hca).use rfl) (by rw [e1]; exact hce) hcv hcl2
      (hk2 q p l e s m args below meth c T'.heap (locs ++ L) ls (F.hp (by rw [e1]; exact hw)
        ⟨Nat.le_trans hS.1 (by rw [e1]; exact hz), fun q h1 h2 => by rw [e1, hk q (Nat.lt_of_lt_of_le h1 hS.1) h2]; exact hS.2.1 q h1 h2, fun q hq => by
          rcases List.mem_append.mp hq with h | h
          · exact hS.2.2 q h
          · exact hL q h⟩)) T' rfl X'
    exact ⟨t2, stp.trans a1, b1⟩
theorem r_astoreq {i : Nat} {x : Addr} (hdg : decode M.2.1 pc = .ok (.astore i, 2)) (hn : i < M.2.2.1) (hl : lins i (.ref x) (lv.filter (fun q => !(q.1 == i) && !(q.1 + 1 == i && q.2.category == 2))) = lv') (kk : Rn G M R E Z ex sh k n (pc + 2) lv' st σ) : Rn G M R E Z ex sh k n pc lv ((.ref x) :: st) σ := fun p l e s m args below meth c H locs ls F => lv_astore F.1 F.2.1 hdg F.hl hn rfl (fun ls' h => kk p l e s m args below meth c H locs ls' (F.lv (lv_ins h hl)))
theorem r_astoreq_n {q : Fin 4} {i : Nat} {x : Addr} (hdg : decode M.2.1 pc = .ok (.astore_n q, 1)) (hi : (q : Nat) = i) (hn : i < M.2.2.1) (hl : lins i (.ref x) (lv.filter (fun q => !(q.1 == i) && !(q.1 + 1 == i && q.2.category == 2))) = lv') (kk : Rn G M R E Z ex sh k n (pc + 1) lv' st σ) : Rn G M R E Z ex sh k n pc lv ((.ref x) :: st) σ := fun p l e s m args below meth c H locs ls F => lv_astore_n F.1 F.2.1 hdg hi F.hl hn rfl (fun ls' h => kk p l e s m args below meth c H locs ls' (F.lv (lv_ins h hl)))
end CATCH
/-- a wrapper's end: its code, the answer laid into the row of one long -/
def DoneW (σ τ : Sg) (A : Ab) : Prop := CI τ ∧ absC τ = A ∧ ∀ a, 46 ≤ a → a ≠ 59 → τ a = σ a
def WkP (σ : Sg) (o : Op3) : Option Value → Sg → Prop := fun rv sv => some (I o.1) = rv ∧ (o.1 = 0 → sv 59 0 = bm o.2.1) ∧ DoneW σ sv o.2.2
theorem CI_59 {σ : Sg} {i v : Int} (h : CI σ) : CI (up σ 59 i v) ∧ absC (up σ 59 i v) = absC σ := by
  have hq : Qs σ (up σ 59 i v) → CI (up σ 59 i v) ∧ absC (up σ 59 i v) = absC σ := fun q => ⟨q.ci h, q.abs⟩
  have e : ∀ a, a ≠ 59 → up σ 59 i v a = σ a := fun a ha => up_ne ha
  have hx : absC (up σ 59 i v) = absC σ := by
    unfold absC
    rw [hiC_c (fun a h1 h2 => e a (by omega)), slC_c (e 38 (by decide)) (e 39 (by decide)) (e 40 (by decide)) (e 41 (by decide)), slC_c (e 42 (by decide)) (e 43 (by decide)) (e 44 (by decide)) (e 45 (by decide)), e 16 (by decide), e 15 (by decide), stC_c (e 1 (by decide)) (e 2 (by decide)) (e 3 (by decide))]
  obtain ⟨a1, a2, a3, a4, a5, a6⟩ := h
  refine ⟨⟨?_, ?_, ?_, ?_, ?_, ?_⟩, hx⟩
  · unfold ScC; rw [e 6 (by decide), e 11 (by decide), e 13 (by decide)]; exact a1
  · unfold HistOK; rw [e 18 (by decide)]; exact a2
  · rw [e 15 (by decide)]; exact a3
  · rw [e 38 (by decide), e 42 (by decide)]; exact a4
  · rw [e 2 (by decide)]; exact a5
  · rw [hx]; exact a6
theorem wk_ok {σ s : Sg} {o : Op3} {rv : Option Value} (h : OkP σ o rv s) {v : Int} (hv : v = bm o.2.1) : WkP σ o (some (I 0)) (up s 59 0 v) := by
  obtain ⟨h1, -, h2, h3, h4⟩ := h
  have hc := CI_59 (i := 0) (v := v) h2
  exact ⟨by rw [h1], fun _ => by rw [up_eq, hv], hc.1, hc.2.trans h3, fun a p q => by rw [up_ne q]; exact h4 a p⟩
theorem wk_ex {σ s : Sg} {o : Op3} {c : Int} (h : o.1 = c) (hc : c = 1 ∨ c = 2) (hd : Done σ s o.2.2) : WkP σ o (some (I c)) s :=
  ⟨by rw [h], fun q => absurd (h.symm.trans q) (by omega), hd.1, hd.2.1, fun a p _ => hd.2.2 a p⟩

set_option maxHeartbeats 1000000 in
set_option maxRecDepth 100000 in
theorem tX8_thrown (G : GT) (σ : Sg)  : Ct G mX8_thrown 1 0 0 false SH SH [Rf G 46] σ (fun rv sv => some (I (σ 46 7)) = rv ∧ σ = sv) := by
  obtain ⟨P, hP⟩ : ∃ P : Option Value → Sg → Prop, P = (fun rv sv => some (I (σ 46 7)) = rv ∧ σ = sv) := ⟨_, rfl⟩
  rw [← hP]
  refine ct_of (lv := [(0, Rf G 46)]) (by decide +kernel) (Nat.le_of_ble_eq_true rfl) rfl ?_
  refine r_aload_n dX8_thrown_0 rfl rfl ?_
  refine r_getI (z := 7) dX8_thrown_1 sh46 rfl (ci := 8) (j := 7) rfl (Nat.le_of_ble_eq_true rfl) rfl ixX8 q649 rfl (hv := rfl) ?_
  exact r_iret dX8_thrown_4 rfl (by rw [hP]; exact ⟨rfl, rfl⟩)
