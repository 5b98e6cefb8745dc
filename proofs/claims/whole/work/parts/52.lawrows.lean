def R_law : String := "LeastRowsLaw"
def lw_P (b : Addr) (xs : List Int32) (args : Array Value) (s : State) : Prop := args = #[.ref b] ∧ s.IntsAt b xs ∧ xs.length ≤ 2560 ∧ (Jvm.Cond.and given_1 narrow_1).before args s = true
/-- what a walk over the start with the record d0 says of its end, said of the start itself -/
theorem lw_closed {s t : State} {o : Outcome} {d0 : Drawn} {L : List Loc} {k n : Nat} (hd0 : s.drawn.sameBut d0 lw_cs) (hv : ∃ v, o = .returned v) (hW : (s.setDrawn d0).WarmedH t.vm) (hs : (s.setDrawn d0).sameButNew ({ t with vm := s.vm } : State) L k n) : State.butDraws s t lw_cs (fun t1 => Framed s o t1 L k n) := by
  have h2 : t.drawn = d0 := congrArg State.drawn hs.1
  refine ⟨⟨hv, hW, State.sameButNew.setDrawn hs s.drawn⟩, ?_, by decide⟩
  rw [h2]
  exact hd0
def lw_Q (_ : Array Value) (s : State) (o : Outcome) (t : State) : Prop := o = .returned (some (.int 1)) ∧ State.butDraws s t lw_cs (fun t1 => Framed s o t1 [] 601024 7293034)
def lw_Z (below : List Frame) (a : Array Value) (s : State) : State → Prop := fun t => ∃ o, t.status = .running ∧ Ended t below o ∧ lw_Q a s o t
/-- the law's own end, with 1 on the stack, nothing written that was there before, its room as the claim has it; d0: the record of draws at this point (at the entry s.drawn: begin with 'refine W.base ?_' and 'have hd0 := Drawn.sameBut.refl s.drawn lw_cs') -/
theorem lw_ret {p : Program} {l : Launch} {e : Env} {s : State} {m : MethodId} {below : List Frame} {meth : Method} {c : Code} {b : Nat} {d0 : Drawn} (hd0 : s.drawn.sameBut d0 lw_cs) (hx : p.tables.exec = Jvm.exec) (hb : c.code = code) (hr : meth.sig.returnType = ret) (hlocks : meth.locks = false) {pc : Nat} {H : Heap} {ls : Array Slot} (hdg : decode code pc = .ok (.ireturn, 1)) : W p l e room_1 (s.setDrawn d0) m #[Value.ref b] below meth c H [] 601024 7293034 (lw_Z below #[Value.ref b] s) (F0 m pc ls [.int 1]) := by
  intro T hT X
  obtain ⟨fs, hret, hrun, hended, hW, hframe⟩ := X.leave (v := some (.int 1)) (hlocks := hlocks) (fun h => by rw [hr] at h; cases h)
  have hmeth' : T.vm.method? m = some meth := X.method'
  refine ⟨T.setFrames fs, ?_, .returned (some (.int 1)), hrun, hended, rfl, lw_closed hd0 ⟨_, rfl⟩ hW hframe⟩
  jvm_step X.here [X.here.top, hx, hb, hdg, hmeth', hr, ret, narrow_b1]
  (try refine ⟨rfl, ?_⟩); (try refine ⟨rfl, ?_⟩)
  first | (intro acts; rw [hret _ acts rfl rfl rfl]) | rw [hret _ _ rfl rfl rfl]
  exact Steps.refl _
/-- what holds at the law's entry: the machine, the code, the tables' words (any of lw_tbl by 'hts w (by decide +kernel)'), the script of L ints xs at the cell b, what the Statement gives of the start (any of its parts by flat_of_before) -/
def lw_At (p : Program) (s : State) (m : MethodId) (meth : Method) (c : Code) (b L : Nat) (xs : Nat → Int32) : Prop :=
  p.tables.exec = Jvm.exec ∧ c.code = code ∧ meth.sig.returnType = ret ∧ c.maxLocals = 9 ∧ s.vm.findClass R_law = some m.cls ∧ (∀ w ∈ lw_tbl, w.before #[Value.ref b] s = true) ∧ va_X b L xs s s.heap ∧ b < s.heap.size ∧ meth.locks = false ∧ (Jvm.Cond.and given_1 narrow_1).before #[Value.ref b] s = true


/-! ## making objects -/
def EA : ET := fun _ s _ _ => va_AO RX5 s

theorem mi_map {B : Nat} {l : List FK} : l.mapIdx (fun _ fk => cvF B fk 0) = l.map (fun fk => cvF B fk 0) := by
  apply List.ext_getElem?
  intro i
  rw [List.getElem?_mapIdx, List.getElem?_map]
section NEWS
variable {G : GT} {M : MI} {R : Room} {E : ET} {Z : ZT} {ex : Bool} {sh sh2 : List Ob} {k n : Nat} {pc : Nat} {lv lv' : List (Nat × Value)} {st : List Value} {σ : Sg}
theorem r_objInit {a idx : Nat} (hdg : decode M.2.1 pc = .ok (.invokespecial idx, 3)) (hlink : Cond.methodLink M.1.cls idx objectInit ∈ TBG) (hf : 1 ≤ R.frames) (hl : (st.map fun v => v.category).sum + 12 ≤ R.locals) (kk : Rn G M R E Z ex sh k n (pc + 3) lv st σ) : Rn G M R E Z ex sh k n pc lv (Rf G a :: st) σ := by
  intro p l e s m args below meth c H locs ls F
  exact W.objInit F.1 F.2.1 F.own (F.wd _ hlink) (F.wd _ q24) (F.wd _ q25) rfl (F.hl.1.trans F.2.2.1.symm) rfl hdg hf (by show 2 * 0 + _ + 12 ≤ _; omega) (kk p l e s m args below meth c H locs ls F)
theorem r_new {ci idx N : Nat} {C : String} {T : u_T} {fks : List FK} (ty0 : Nat → FieldType) (hdg : decode M.2.1 pc = .ok (.new idx, 3)) (hcl : Cond.classLink M.1.cls idx C ∈ TBG) (hinst : Cond.instantiable C N ∈ TBG) (hini : Cond.initialized C ∈ TBG) (hc : vwCl[ci]? = some (C, T, N)) (hty : ∀ k, k < N → parseFieldDescriptor (T k).2.2.1 = some (ty0 k)) (hin : ∀ w ∈ u_ws C T N, w ∈ TBG)
    {a : Nat} (ha : sh.length = a) (hsh : sh ++ [.inl (ci, fks)] = sh2) (hσ : σ a = fun _ => 0) (hfs : ∀ j, j < N → defaultValue (ty0 j) = vp_V (fks.map (fun fk => cvF G.1 fk 0)) j) (hcells : k + 1 ≤ R.cells) (hslots : n + N ≤ R.slots)
    (kk : Rn G M R E Z true sh2 (k + 1) (n + N) (pc + 3) lv (Rf G a :: st) σ) : Rn G M R E Z true sh k n pc lv st σ := by
  intro p l e s m args below meth c H locs ls F
  subst hsh ha
  have hKn := F.tb.1.1 ci _ hc
  have hsz : H.size = G.1 + sh.length := F.hw.2 rfl
  have hS := F.fs
  refine W.newcK F.1 F.2.1 F.own (F.wd _ hcl) (F.wd _ hinst) (F.wd _ hini) rfl hdg hcells hslots hKn.2.1 hsz fun H1 kC hkC e1 z1 o1 => ?_
  have hk : ∀ (k : Nat) (x : Nat × va_E), (wl G sh σ)[k]? = some x → H1[x.1]? = H[x.1]? := fun k x hx => o1 x.1 (by rw [← hsz]; exact (F.hw.1 k x hx).lt)
  refine kk p l e s m args below meth c H1 locs ls (F.hp ⟨?_, fun _ => by rw [z1, List.length_append]; rfl⟩ ⟨Nat.le_trans hS.1 (by omega), fun x h1 h2 => (o1 x (by have := hS.1; omega)).trans (hS.2.1 x h1 h2), hS.2.2⟩)
  rw [← wl_push (q := G.1 + sh.length) rfl]
  refine (F.hw.1.kept hk).app (fun k x hx => ?_)
  have hz : k < 1 := (List.getElem?_eq_some_iff.mp hx).1
  rw [show k = 0 by omega] at hx
  cases hx
  rw [hσ]
  exact ⟨_, hc, (u_born ty0 F.wd hin hKn hkC e1 hty).to (fun j hj => (hfs j hj).trans (by rw [← mi_map]))⟩
theorem r_newi {N : Nat} {z : Int} (hdg : decode M.2.1 pc = .ok (.newarray .int, 2)) (hz : z = (N : Int)) (hN : N ≤ 100000) {a : Nat} (ha : sh.length = a) (hsh : sh ++ [.inr (.inl N)] = sh2) (hσ : σ a = fun _ => 0) (hcells : k + 1 ≤ R.cells) (hslots : n + N ≤ R.slots)
    (kk : Rn G M R E Z true sh2 (k + 1) (n + N) (pc + 2) lv (Rf G a :: st) σ) : Rn G M R E Z true sh k n pc lv (I z :: st) σ := by
  intro p l e s m args below meth c H locs ls F
  subst hsh ha hz
  have hsz : H.size = G.1 + sh.length := F.hw.2 rfl
  have hS := F.fs
  refine va_newaK (atype := .int) F.1 F.2.1 (F.wd _ q54) rfl hdg rfl (by rw [oI_0, oI_lt (by omega)]; omega) (by have := oI_nat (z := (N : Int)) (by omega) (by omega); omega) (by show N * 4 ≤ _; omega) hcells hslots hsz fun H1 cA e1 z1 o1 hA hfc => ?_
  have hcA : cA = G.2.2.1 := Option.some.inj (hfc.symm.trans (F.tb.1.2 0 _ rfl).2)
  subst hcA
  have hk : ∀ (k : Nat) (x : Nat × va_E), (wl G sh σ)[k]? = some x → H1[x.1]? = H[x.1]? := fun k x hx => o1 x.1 (by rw [← hsz]; exact (F.hw.1 k x hx).lt)
  refine kk p l e s m args below meth c H1 locs ls (F.hp ⟨?_, fun _ => by rw [z1, List.length_append]; rfl⟩ ⟨Nat.le_trans hS.1 (by omega), fun x h1 h2 => (o1 x (by have := hS.1; omega)).trans (hS.2.1 x h1 h2), hS.2.2⟩)
  rw [← wl_push (q := G.1 + sh.length) rfl]
  refine (F.hw.1.kept hk).app (fun k x hx => ?_)
  have hz : k < 1 := (List.getElem?_eq_some_iff.mp hx).1
  rw [show k = 0 by omega] at hx
  cases hx
  rw [hσ]
  show H1[G.1 + sh.length]? = some (vp_cell _ _)
  rw [e1]
  rfl
theorem r_newl {N : Nat} {z : Int} (hdg : decode M.2.1 pc = .ok (.newarray .long, 2)) (hz : z = (N : Int)) (hN : N ≤ 100000) {a : Nat} (ha : sh.length = a) (hsh : sh ++ [.inr (.inr (.inl N))] = sh2) (hσ : σ a = fun _ => 0) (hcells : k + 1 ≤ R.cells) (hslots : n + N ≤ R.slots)
    (kk : Rn G M R E Z true sh2 (k + 1) (n + N) (pc + 2) lv (Rf G a :: st) σ) : Rn G M R E Z true sh k n pc lv (I z :: st) σ := by
  intro p l e s m args below meth c H locs ls F
  subst hsh ha hz
  have hsz : H.size = G.1 + sh.length := F.hw.2 rfl
  have hS := F.fs
  refine va_newaK (atype := .long) F.1 F.2.1 (F.wd _ q921) rfl hdg rfl (by rw [oI_0, oI_lt (by omega)]; omega) (by have := oI_nat (z := (N : Int)) (by omega) (by omega); omega) (by show N * 8 ≤ _; omega) hcells hslots hsz fun H1 cA e1 z1 o1 hA hfc => ?_
  have hcA : cA = G.2.2.2.1 := Option.some.inj (hfc.symm.trans (F.tb.1.2 1 _ rfl).2)
  subst hcA
  have hk : ∀ (k : Nat) (x : Nat × va_E), (wl G sh σ)[k]? = some x → H1[x.1]? = H[x.1]? := fun k x hx => o1 x.1 (by rw [← hsz]; exact (F.hw.1 k x hx).lt)
  refine kk p l e s m args below meth c H1 locs ls (F.hp ⟨?_, fun _ => by rw [z1, List.length_append]; rfl⟩ ⟨Nat.le_trans hS.1 (by omega), fun x h1 h2 => (o1 x (by have := hS.1; omega)).trans (hS.2.1 x h1 h2), hS.2.2⟩)
  rw [← wl_push (q := G.1 + sh.length) rfl]
  refine (F.hw.1.kept hk).app (fun k x hx => ?_)
  have hz : k < 1 := (List.getElem?_eq_some_iff.mp hx).1
  rw [show k = 0 by omega] at hx
  cases hx
  rw [hσ]
  show H1[G.1 + sh.length]? = some (vp_cell _ _)
  rw [e1]
  rfl
theorem r_newq {N idx : Nat} {z : Int} (hE : ∀ l s args c, E l s args c → va_AO RX5 s) (hdg : decode M.2.1 pc = .ok (.anewarray idx, 3)) (hcl : Cond.classLink M.1.cls idx RX5 ∈ TBG) (hz : z = (N : Int)) (hN : N ≤ 100000) {a : Nat} (ha : sh.length = a) (hsh : sh ++ [.inr (.inr (.inr (N, fun _ => none)))] = sh2) (hcells : k + 1 ≤ R.cells) (hslots : n + N ≤ R.slots)
    (kk : Rn G M R E Z true sh2 (k + 1) (n + N) (pc + 3) lv (Rf G a :: st) σ) : Rn G M R E Z true sh k n pc lv (I z :: st) σ := by
  intro p l e s m args below meth c H locs ls F
  subst hsh ha hz
  have hsz : H.size = G.1 + sh.length := F.hw.2 rfl
  have hS := F.fs
  have hn9 : (Int32.ofInt (N : Int)).toNatClampNeg = N := by have := oI_nat (z := (N : Int)) (by omega) (by omega); omega
  refine W.anew F.1 F.2.1 F.own (F.wd _ hcl) (va_AO.use (hE _ _ _ _ F.2.2.2.2.2.2.2.2.2.2.2.2)) rfl hdg rfl (by rw [oI_0, oI_lt (by omega)]; omega) (by rw [hn9]; omega) hcells (by rw [hn9]; exact hslots) fun cA kA comp f1 f2 f3 f4 => ?_
  rw [hn9]
  generalize hH1 : H.push ({ cls := cA, slots := Array.replicate N .null, vm := .none } : Cell) = H1
  have z1 : H1.size = G.1 + sh.length + 1 := by rw [← hH1, Array.size_push, hsz]
  have e1 : H1[G.1 + sh.length]? = some (arrV cA N (fun _ => .null)) := by rw [← hH1, ← hsz, Array.getElem?_push_size, ← arrV_new]
  have o1 : ∀ q : Nat, q < G.1 + sh.length → H1[q]? = H[q]? := fun q hq => by rw [← hH1, Array.getElem?_push, if_neg (by rw [hsz]; exact Nat.ne_of_lt hq)]
  rw [hsz]
  have hcA : cA = G.2.2.2.2 := by
    obtain ⟨-, -, -, -, -, h4⟩ := (F.tb.1.2 2 _ rfl).2
    exact Option.some.inj (f1.symm.trans h4)
  subst hcA
  have hk : ∀ (k : Nat) (x : Nat × va_E), (wl G sh σ)[k]? = some x → H1[x.1]? = H[x.1]? := fun k x hx => o1 x.1 (by rw [← hsz]; exact (F.hw.1 k x hx).lt)
  refine kk p l e s m args below meth c H1 locs ls (F.hp ⟨?_, fun _ => by rw [z1, List.length_append]; rfl⟩ ⟨Nat.le_trans hS.1 (by omega), fun x h1 h2 => (o1 x (by have := hS.1; omega)).trans (hS.2.1 x h1 h2), hS.2.2⟩)
  rw [← wl_push (q := G.1 + sh.length) rfl]
  refine (F.hw.1.kept hk).app (fun k x hx => ?_)
  have hz : k < 1 := (List.getElem?_eq_some_iff.mp hx).1
  rw [show k = 0 by omega] at hx
  cases hx
  show H1[G.1 + sh.length]? = some (vp_cell _ _)
  rw [vp_cell_q]
  exact e1
theorem r_aastn {a b N : Nat} {fks : List FK} {g g2 : Nat → Option Nat} {i : Int} (hdg : decode M.2.1 pc = .ok (.aastore, 1)) (hs : sh[a]? = some (.inr (.inr (.inr (N, g))))) (hb : sh[b]? = some (.inl (5, fks))) (hi : 0 ≤ i ∧ i < (N : Int) ∧ (N : Int) ≤ 2147483647)
    (hg2 : va_up g i.toNat (some b) = g2) (hsh : sh.set a (.inr (.inr (.inr (N, g2)))) = sh2) (kk : Rn G M R E Z ex sh2 k n (pc + 1) lv st σ) : Rn G M R E Z ex sh k n pc lv (Rf G b :: I i :: Rf G a :: st) σ := by
  intro p l e s m args below meth c H locs ls F
  subst hsh hg2
  have hS := F.fs
  have hin := oI_in hi
  have hlt : (Int32.ofInt i).toNatClampNeg < N := Nat.not_le.mp fun q => hin (Or.inr q)
  have h0 : ¬ Int32.ofInt i < 0 := fun q => hin (Or.inl q)
  obtain ⟨r', hr', cellV, g1, g2, g3, -⟩ := F.hw.1 b _ (wl_get hb)
  have hcls := (F.tb.1.1 5 _ rfl).2
  obtain ⟨kA, comp, k1, k2, k3, -⟩ := (F.tb.1.2 2 _ rfl).2
  have hcomp : comp = G.2.1.1 5 := Option.some.inj (k3.symm.trans hcls.1)
  subst hcomp
  obtain ⟨kC, hkC, -⟩ := hcls.2
  have hcell : va_at G.2.1 vwCl (G.1 + a, ent G (σ a) (.inr (.inr (.inr (N, g))))) H := F.hw.1 a _ (wl_get hs)
  refine W.aast F.1 F.2.1 hcell (fun q h => by cases h) (fun h => by cases h) k1 k2 rfl hkC ⟨h0, by show _ < (arrV _ _ _).slots.size; rw [arrV_size]; exact hlt⟩ g1 (fun q h => by rw [g3] at h; cases h) (by rw [g2]; exact hkC) (by rw [g2]; exact va_assign hcls) rfl rfl hdg fun H1 e9 z oq => ?_
  refine kk p l e s m args below meth c H1 _ ls (F.hp ⟨?_, fun q => by rw [z, List.length_set]; exact F.hw.2 q⟩ (hS.put z oq (Nat.le_add_right _ _)))
  rw [← wl_set (σ := σ) (σ' := σ) hs (fun _ _ => rfl)]
  refine F.hw.1.set (A := Aq G) wl_D (wl_get hs) ?_ oq
  show H1[G.1 + a]? = some (vp_cell _ _)
  rw [e9]
  rw [vp_cell_q, vp_cell_q, arrV_store]
  have hi9 : (Int32.ofInt i).toNatClampNeg = i.toNat := by have := oI_nat (z := i) (by omega) (by omega); omega
  rw [hi9]
  congr 2
  funext q
  by_cases hq : q = i.toNat
  · subst hq
    simp [updV, va_up, va_rf]
  · simp [updV, va_up, hq]
end NEWS
/-- a constructor that makes rows of references, or calls one -/
def CtN (G : GT) (M : MI) (d mc ms : Nat) (sh sh' : List Ob) (args : List Value) (σ : Sg) (Post : Option Value → Sg → Prop) : Prop :=
  ∀ l : Launch, Met l M.1 [Cond.code M.1 M.2.1 M.2.2.1 M.2.2.2] (rmD d mc ms) (fun a U => Pn G true sh args σ a U ∧ va_AO RX5 U) (Qn G true sh' Post) mc ms (Aq G)
theorem PN_blind {G : GT} {ex : Bool} {sh : List Ob} {As : List Value} {σ : Sg} : FrameBlind (fun a U => Pn G ex sh As σ a U ∧ va_AO RX5 U) := fun a U g mk q => ⟨Pn_blind a U g mk q.1, va_AO.moved (u := U) (U := U.calling g mk a) (Vm.Alike.refl U.vm) q.2⟩
section NEWC
variable {G : GT} {M : MI} {R : Room} {E : ET} {Z : ZT} {ex : Bool} {sh sh2 : List Ob} {k n : Nat} {pc : Nat} {lv lv' : List (Nat × Value)} {st : List Value} {σ : Sg}
theorem ctn_of {d mc ms : Nat} {As : List Value} {Post : Option Value → Sg → Prop} (hy : plainName M.1.cls = true) (hlen : (lg_sl As).length ≤ M.2.2.1) (hlv : lv_args 0 As = lv)
    (hR : Rn G M (rmD d mc ms) EA (Zn G true sh2 Post mc ms) true sh 0 0 0 lv [] σ) : CtN G M d mc ms sh sh2 As σ Post := by
  intro l
  refine Met.ofW (cc := M.2.1) (maxL := M.2.2.1) (ret := M.2.2.2) hy rfl ?_
  intro p e s m args below meth c s₁ B hml hv
  obtain ⟨⟨rfl, hTb, hHw⟩, hAO⟩ := hv
  have hx := B.exec
  have hb := B.bytes
  have hr := B.returns
  have hown : s.vm.findClass M.1.cls = some m.cls := findClass_of_methodNamed B.named
  have hlocks := B.notSynchronized
  have hin : meth.name = M.1.name := (name_of_methodNamed B.named B.method).1
  have hl := lv_entry As (n := M.2.2.1) hlen
  rw [lg_entry_eq]
  rw [hlv] at hl
  exact hR p l e s m _ below meth c s.heap [] _ ⟨hx, hb, hml, hr, hown, fun w hw => word_at (State.WarmedH.refl s) (TBG_gd hw) (hTb.2.1 w hw), hTb, hHw, va_S.rf, hl, hlocks, hin, hAO⟩
theorem r_callA {M2 : MI} {d2 mc ms b idx : Nat} {As rest st0 : List Value} {Post : Option Value → Sg → Prop} (hE : ∀ l s args c, E l s args c → va_AO RX5 s)
    (hC : CtN G M2 d2 mc ms sh sh2 (Rf G b :: As) σ Post) (hdg : decode M.2.1 pc = .ok (.invokespecial idx, 3)) (sv : SI M2 As.length) (hlink : Cond.methodLink M.1.cls idx M2.1 ∈ TBG)
    (hst : st0 = As.reverse ++ Rf G b :: rest) (hR : d2 + 1 ≤ R.frames ∧ 8 + (M2.2.2.1 + 11) + 40 * d2 ≤ R.locals) (hcat : (rest.map fun v => v.category).sum ≤ 8) (hf : k + mc ≤ R.cells ∧ n + ms ≤ R.slots)
    (kk : ∀ (r : Option Value) (σ' : Sg), Post r σ' → Rn G M R E Z true sh2 (k + mc) (n + ms) (pc + 3) lv (r.toList ++ rest) σ') : Rn G M R E Z true sh k n pc lv st0 σ := by
  refine r_run (mc := mc) (ms := ms) (As := (Rf G b :: As).toArray) (fun p l e s m args below meth c H locs ls F => ?_) kk
  obtain ⟨w0, w9, w1, w2, w3, hy⟩ := sv
  have hM := hC l
  have hAO := hE _ _ _ _ F.2.2.2.2.2.2.2.2.2.2.2.2
  rw [w0] at hM w3
  refine va_runI (Ts := TBG) (own := M.1.cls) (As := As) ⟨F.1, F.2.1, F.2.2.1, F.own, F.wd⟩ hM (cwI As.length F.wd (gi_of ?_) rfl rfl rfl (F.wd _ w2) (F.wd _ hlink) (F.wd _ w1) w9 hy hR) ⟨PN_blind, fun U hU hW => ⟨Pn_at F U hU hW, va_AO.moved hW.alike hAO⟩⟩ rfl rfl F.hl.1 hst ?_ hdg hf
  · intro w hw
    simp only [List.mem_cons, List.not_mem_nil, or_false] at hw
    rw [hw]
    exact w3
  · show 2 * 0 + _ ≤ 8
    omega
end NEWC
/-! ## the law -/
abbrev mL_law : MI := (yL_law, cL_law, 9, ret)
def EL (G : GT) (b L : Nat) (xs : Nat → Int32) : ET := fun l s args _ => l.stackTraces = false ∧ TW G s ∧ args = #[Value.ref b] ∧ va_X b L xs s s.heap ∧ b < G.1 ∧ G.1 = s.heap.size ∧ va_AO RX5 s
def ZL : ZT := fun below args s => lw_Z below args s
def XX (xs : Nat → Int32) (i : Int) : Int := (xs i.toNat).toInt
theorem XX_bd {xs : Nat → Int32} {i : Int} : -2147483648 ≤ XX xs i ∧ XX xs i ≤ 2147483647 := by
  have h1 := Int32.minValue_le_toInt (xs i.toNat)
  have h2 := Int32.toInt_le (xs i.toNat)
  have e1 : Int32.minValue.toInt = -2147483648 := by decide
  have e2 : Int32.maxValue.toInt = 2147483647 := by decide
  rw [e1] at h1
  rw [e2] at h2
  unfold XX
  omega
section LAWR
variable {G : GT} {M : MI} {R : Room} {E : ET} {Z : ZT} {ex : Bool} {sh sh2 : List Ob} {k n : Nat} {pc : Nat} {lv lv' : List (Nat × Value)} {st : List Value} {σ : Sg} {b L : Nat} {xs : Nat → Int32}
theorem r_lcmpE {x : Int} (hdg : decode M.2.1 pc = .ok (.lcmp, 1)) (kk : Rn G M R E Z ex sh k n (pc + 1) lv (I 0 :: st) σ) : Rn G M R E Z ex sh k n pc lv (Lg x :: Lg x :: st) σ := by
  intro p l e s m args below meth c H locs ls F
  refine W.lcmp F.1 F.2.1 hdg ?_
  have h : lg_cmp (Int64.ofInt x) (Int64.ofInt x) = Int32.ofInt 0 := by
    unfold lg_cmp
    rw [if_neg (by rw [gt_iff_lt, Int64.lt_iff_toInt_lt]; omega), if_pos rfl]
    rfl
  rw [h]
  exact kk p l e s m args below meth c H locs ls F
theorem r_icmp_eqE {x : Int} {off : Int} {tgt : Nat} (hdg : decode M.2.1 pc = .ok (.if_icmp .eq off, 3)) (ht : (pc : Int) + off = (tgt : Int)) (kk : Rn G M R E Z ex sh k n tgt lv st σ) : Rn G M R E Z ex sh k n pc lv (I x :: I x :: st) σ :=
  fun p l e s m args below meth c H locs ls F => lv_icmp_eq F.1 F.2.1 hdg ht (fun _ => kk p l e s m args below meth c H locs ls F) (fun q => absurd rfl q)
theorem r_and31 {x : Int} (hdg : decode M.2.1 pc = .ok (.iand, 1)) (kk : ∀ z : Int, 0 ≤ z ∧ z ≤ 31 → Rn G M R E Z ex sh k n (pc + 1) lv (I z :: st) σ) : Rn G M R E Z ex sh k n pc lv (I 31 :: I x :: st) σ := by
  intro p l e s m args below meth c H locs ls F
  refine lv_iand F.1 F.2.1 hdg ?_
  obtain ⟨w, hw⟩ : ∃ w : Int32, w = Int32.ofInt x &&& Int32.ofInt 31 := ⟨_, rfl⟩
  have hn : w.toBitVec.toNat ≤ 31 := by
    rw [hw, Int32.toBitVec_and, BitVec.toNat_and]
    exact Nat.and_le_right
  have hi : w.toInt = (w.toBitVec.toNat : Int) := by
    rw [← Int32.toInt_toBitVec]
    exact BitVec.toInt_eq_toNat_of_lt (by omega)
  have h := kk w.toInt (by omega) p l e s m args below meth c H locs ls F
  unfold I at h
  rw [Int32.ofInt_toInt, hw] at h
  exact h
theorem r_slen (hdg : decode M.2.1 pc = .ok (.arraylength, 1)) (kk : Rn G M R (EL G b L xs) Z ex sh k n (pc + 1) lv (I (L : Int) :: st) σ) : Rn G M R (EL G b L xs) Z ex sh k n pc lv (.ref b :: st) σ := by
  intro p l e s m args below meth c H locs ls F
  obtain ⟨h1, h2, h3, h4, h5, h6, h7⟩ := F.2.2.2.2.2.2.2.2.2.2.2.2
  refine va_slen F.1 F.2.1 h4 (by omega) (Nat.not_le.mpr h5) F.fs hdg ?_
  have h := kk p l e s m args below meth c H locs ls F
  unfold I at h
  rw [Int32.ofInt_eq_ofNat] at h
  exact h
theorem r_sld {i : Int} (hdg : decode M.2.1 pc = .ok (.iaload, 1)) (hi : 0 ≤ i ∧ i < (L : Int) ∧ (L : Int) ≤ 2147483647) (kk : Rn G M R (EL G b L xs) Z ex sh k n (pc + 1) lv (I (XX xs i) :: st) σ) : Rn G M R (EL G b L xs) Z ex sh k n pc lv (I i :: .ref b :: st) σ := by
  intro p l e s m args below meth c H locs ls F
  obtain ⟨h1, h2, h3, h4, h5, h6, h7⟩ := F.2.2.2.2.2.2.2.2.2.2.2.2
  refine va_sld F.1 F.2.1 h4 (by omega) (Nat.not_le.mpr h5) F.fs (oI_in hi) hdg ?_
  have h := kk p l e s m args below meth c H locs ls F
  have hi9 : (Int32.ofInt i).toNatClampNeg = i.toNat := by have := oI_nat (z := i) (by omega) (by omega); omega
  unfold I XX at h
  rw [Int32.ofInt_toInt, ← hi9] at h
  exact h
theorem r_aloadb_n {q : Fin 4} {i : Nat} {x : Addr} (hdg : decode M.2.1 pc = .ok (.aload_n q, 1)) (hi : (q : Nat) = i) (hl : lv.lookup i = some (.ref x)) (kk : Rn G M R E Z ex sh k n (pc + 1) lv (.ref x :: st) σ) : Rn G M R E Z ex sh k n pc lv st σ := fun p l e s m args below meth c H locs ls F => lv_aload_n F.1 F.2.1 hdg hi (lkp F.hl hl) (kk p l e s m args below meth c H locs ls F)
theorem r_callW {M2 : MI} {hh : HH} {d2 idx : Nat} {As rest st0 : List Value} {Post : Option Value → Sg → Prop} (hC : CtW G M2 hh d2 sh As σ Post) (hdg : decode M.2.1 pc = .ok (.invokestatic idx, 3))
    (w1 : Cond.static M2.1 ∈ TBG) (w2 : Cond.initialized M2.1.cls ∈ TBG) (w3 : Cond.codeWith M2.1 M2.2.1 M2.2.2.1 M2.2.2.2 hh ∈ TBG) (hy : M2.1.cls ≠ "java/lang/invoke/MethodHandle" ∧ M2.1.cls ≠ "java/lang/invoke/VarHandle" ∧ (parseMethodDescriptor M2.1.desc).map (fun d => d.parameters.length) = some As.length)
    (hlink : Cond.methodLink M.1.cls idx M2.1 ∈ TBG) (hst : st0 = As.reverse ++ rest) (hR : d2 + 1 ≤ R.frames ∧ 8 + (M2.2.2.1 + 11) + 40 * d2 ≤ R.locals) (hcat : (rest.map fun v => v.category).sum ≤ 8) (hf : k + 1 ≤ R.cells ∧ n + 6 ≤ R.slots)
    (kk : ∀ (r : Option Value) (σ' : Sg), Post r σ' → Rn G M R (EL G b L xs) Z false sh (k + 1) (n + 6) (pc + 3) lv (r.toList ++ rest) σ') : Rn G M R (EL G b L xs) Z false sh k n pc lv st0 σ := by
  refine r_run (mc := 1) (ms := 6) (As := As.toArray) (fun p l e s m args below meth c H locs ls F => ?_) kk
  obtain ⟨h1, h2, -⟩ := F.2.2.2.2.2.2.2.2.2.2.2.2
  refine vx_runSW (Ts := TBG) (own := M.1.cls) (As := As) ⟨F.1, F.2.1, F.2.2.1, F.own, F.wd⟩ (hC l h1) (vx_cwSW As.length F.wd (gi_of ?_) rfl rfl rfl hy hR) ⟨PW_blind, fun U hU hW => ⟨Pn_at F U hU hW, h2.warm hW (fun a g1 g2 => by rw [hU]; exact F.fs.2.1 a g1 g2)⟩⟩ rfl rfl F.hl.1 hst ?_ hdg hf
  · intro w hw
    simp only [va_wsS, List.mem_append, List.mem_cons, List.not_mem_nil, or_false] at hw
    rcases hw with (rfl | rfl | rfl) | rfl
    · exact hlink
    · exact w1
    · exact w2
    · exact w3
  · show 2 * 0 + _ ≤ 8
    omega
theorem r_lawend (hdg : decode cL_law pc = .ok (.ireturn, 1)) (hk : k ≤ 601024) (hn : n ≤ 7293034) : Rn G mL_law room_1 (EL G b L xs) ZL ex sh k n pc lv [I 1] σ := by
  intro p l e s m args below meth c H locs ls F
  obtain ⟨h1, h2, h3, h4, h5, h6, h7⟩ := F.2.2.2.2.2.2.2.2.2.2.2.2
  subst h3
  refine W.widen hk hn ?_
  refine va_forget (fun q hq => by rw [← h6]; exact F.fs.2.2 q hq) ?_
  refine W.base ?_
  exact lw_ret (Drawn.sameBut.refl s.drawn lw_cs) F.1 F.2.1 F.2.2.2.1 F.lk hdg
end LAWR

