variable {Ω : List Ob}
/-! ## making objects -/
def EA : ET := fun _ s _ _ => va_AO RX5 s

theorem mi_map {B : Nat} {l : List FK} : l.mapIdx (fun _ fk => cvF B fk 0) = l.map (fun fk => cvF B fk 0) := by
  apply List.ext_getElem?
  intro i
  rw [List.getElem?_mapIdx, List.getElem?_map]
section NEWS
variable {G : GT} {M : MI} {R : Room} {E : ET} {Z : ZT} {ex : Bool} {sh sh2 : List Ob} {k n : Nat} {pc : Nat} {lv lv' : List (Nat × Value)} {st : List Value} {σ : Sg}
theorem r_objInit {a idx : Nat} (hdg : decode M.2.1 pc = .ok (.invokespecial idx, 3)) (hlink : Cond.methodLink M.1.cls idx objectInit ∈ TBG) (hf : 1 ≤ R.frames) (hl : (st.map fun v => v.category).sum + 12 ≤ R.locals) (kk : Rn G M R E Z ex sh k n (pc + 3) lv st σ) : Rn G M R E Z ex sh k n pc lv (Rf G a :: st) σ := by
  intro p l e s m args below meth c H locs ls F
  exact W.objInit F.1 F.2.1 F.own (F.wd _ hlink) (F.wd _ q22) (F.wd _ q23) rfl (F.hl.1.trans F.2.2.1.symm) rfl hdg hf (by show 2 * 0 + _ + 12 ≤ _; omega) (kk p l e s m args below meth c H locs ls F)
theorem r_new {ci idx N : Nat} {C : String} {T : u_T} {fks : List FK} (ty0 : Nat → FieldType) (hdg : decode M.2.1 pc = .ok (.new idx, 3)) (hcl : Cond.classLink M.1.cls idx C ∈ TBG) (hinst : Cond.instantiable C N ∈ TBG) (hini : Cond.initialized C ∈ TBG) (hc : vwCl[ci]? = some (C, T, N)) (hty : ∀ k, k < N → parseFieldDescriptor (T k).2.2.1 = some (ty0 k)) (hin : ∀ w ∈ u_ws C T N, w ∈ TBG)
    {a : Nat} (ha : sh.length = a) (hsh : sh ++ [.inl (ci, fks)] = sh2) (hσ : σ a = fun _ => 0) (hfs : ∀ j, j < N → defaultValue (ty0 j) = vp_V (fks.map (fun fk => cvF G.1 fk 0)) j) (hcells : k + 1 ≤ R.cells) (hslots : n + N ≤ R.slots)
    (kk : Rn G M R E Z true sh2 (k + 1) (n + N) (pc + 3) lv (Rf G a :: st) σ) : Rn G M R E Z true sh k n pc lv st σ := by
  intro p l e s m args below meth c H locs ls F
  subst hsh ha
  have hKn := F.tb.1.1 ci _ hc
  have hsz : H.size = G.1 + sh.length := F.hw.2 rfl
  have hS := F.fs
  refine W.newcK F.1 F.2.1 F.own (F.wd _ hcl) (F.wd _ hinst) (F.wd _ hini) rfl hdg hcells hslots hKn.2.1 hsz fun H1 kC hkC e1 z1 o1 => ?_
  have hk : ∀ (k : Nat) (x : Nat × va_E), (wl G sh σ)[k]? = some x → H1[x.1]? = H[x.1]? := fun k x hx => o1 x.1 (by rw [← hsz]; exact (F.hw.1 k x hx).lt)
  refine kk p l e s m args below meth c H1 locs ls (F.hp ⟨?_, fun _ => by rw [z1, List.length_append]; rfl⟩ ⟨Nat.le_trans hS.1 (by omega), fun x h1 h2 => (o1 x (by have := hS.1; omega)).trans (hS.2.1 x h1 h2), hS.2.2⟩)
  rw [← wl_push (q := G.1 + sh.length) rfl]
  refine (F.hw.1.kept hk).app (fun k x hx => ?_)
  have hz : k < 1 := (List.getElem?_eq_some_iff.mp hx).1
  rw [show k = 0 by omega] at hx
  cases hx
  rw [hσ]
  exact ⟨_, hc, (u_born ty0 F.wd hin hKn hkC e1 hty).to (fun j hj => (hfs j hj).trans (by rw [← mi_map]))⟩
theorem r_newi {N : Nat} {z : Int} (hdg : decode M.2.1 pc = .ok (.newarray .int, 2)) (hz : z = (N : Int)) (hN : N ≤ 100000) {a : Nat} (ha : sh.length = a) (hsh : sh ++ [.inr (.inl N)] = sh2) (hσ : σ a = fun _ => 0) (hcells : k + 1 ≤ R.cells) (hslots : n + N ≤ R.slots)
    (kk : Rn G M R E Z true sh2 (k + 1) (n + N) (pc + 2) lv (Rf G a :: st) σ) : Rn G M R E Z true sh k n pc lv (I z :: st) σ := by
  intro p l e s m args below meth c H locs ls F
  subst hsh ha hz
  have hsz : H.size = G.1 + sh.length := F.hw.2 rfl
  have hS := F.fs
  refine va_newaK (atype := .int) F.1 F.2.1 (F.wd _ q52) rfl hdg rfl (by rw [oI_0, oI_lt (by omega)]; omega) (by have := oI_nat (z := (N : Int)) (by omega) (by omega); omega) (by show N * 4 ≤ _; omega) hcells hslots hsz fun H1 cA e1 z1 o1 hA hfc => ?_
  have hcA : cA = G.2.2.1 := Option.some.inj (hfc.symm.trans (F.tb.1.2 0 _ rfl).2)
  subst hcA
  have hk : ∀ (k : Nat) (x : Nat × va_E), (wl G sh σ)[k]? = some x → H1[x.1]? = H[x.1]? := fun k x hx => o1 x.1 (by rw [← hsz]; exact (F.hw.1 k x hx).lt)
  refine kk p l e s m args below meth c H1 locs ls (F.hp ⟨?_, fun _ => by rw [z1, List.length_append]; rfl⟩ ⟨Nat.le_trans hS.1 (by omega), fun x h1 h2 => (o1 x (by have := hS.1; omega)).trans (hS.2.1 x h1 h2), hS.2.2⟩)
  rw [← wl_push (q := G.1 + sh.length) rfl]
  refine (F.hw.1.kept hk).app (fun k x hx => ?_)
  have hz : k < 1 := (List.getElem?_eq_some_iff.mp hx).1
  rw [show k = 0 by omega] at hx
  cases hx
  rw [hσ]
  show H1[G.1 + sh.length]? = some (vp_cell _ _)
  rw [e1]
  rfl
theorem r_newl {N : Nat} {z : Int} (hdg : decode M.2.1 pc = .ok (.newarray .long, 2)) (hz : z = (N : Int)) (hN : N ≤ 100000) {a : Nat} (ha : sh.length = a) (hsh : sh ++ [.inr (.inr (.inl N))] = sh2) (hσ : σ a = fun _ => 0) (hcells : k + 1 ≤ R.cells) (hslots : n + N ≤ R.slots)
    (kk : Rn G M R E Z true sh2 (k + 1) (n + N) (pc + 2) lv (Rf G a :: st) σ) : Rn G M R E Z true sh k n pc lv (I z :: st) σ := by
  intro p l e s m args below meth c H locs ls F
  subst hsh ha hz
  have hsz : H.size = G.1 + sh.length := F.hw.2 rfl
  have hS := F.fs
  refine va_newaK (atype := .long) F.1 F.2.1 (F.wd _ q616) rfl hdg rfl (by rw [oI_0, oI_lt (by omega)]; omega) (by have := oI_nat (z := (N : Int)) (by omega) (by omega); omega) (by show N * 8 ≤ _; omega) hcells hslots hsz fun H1 cA e1 z1 o1 hA hfc => ?_
  have hcA : cA = G.2.2.2.1 := Option.some.inj (hfc.symm.trans (F.tb.1.2 1 _ rfl).2)
  subst hcA
  have hk : ∀ (k : Nat) (x : Nat × va_E), (wl G sh σ)[k]? = some x → H1[x.1]? = H[x.1]? := fun k x hx => o1 x.1 (by rw [← hsz]; exact (F.hw.1 k x hx).lt)
  refine kk p l e s m args below meth c H1 locs ls (F.hp ⟨?_, fun _ => by rw [z1, List.length_append]; rfl⟩ ⟨Nat.le_trans hS.1 (by omega), fun x h1 h2 => (o1 x (by have := hS.1; omega)).trans (hS.2.1 x h1 h2), hS.2.2⟩)
  rw [← wl_push (q := G.1 + sh.length) rfl]
  refine (F.hw.1.kept hk).app (fun k x hx => ?_)
  have hz : k < 1 := (List.getElem?_eq_some_iff.mp hx).1
  rw [show k = 0 by omega] at hx
  cases hx
  rw [hσ]
  show H1[G.1 + sh.length]? = some (vp_cell _ _)
  rw [e1]
  rfl
theorem r_newq {N idx : Nat} {z : Int} (hE : ∀ l s args c, E l s args c → va_AO RX5 s) (hdg : decode M.2.1 pc = .ok (.anewarray idx, 3)) (hcl : Cond.classLink M.1.cls idx RX5 ∈ TBG) (hz : z = (N : Int)) (hN : N ≤ 100000) {a : Nat} (ha : sh.length = a) (hsh : sh ++ [.inr (.inr (.inr (N, fun _ => none)))] = sh2) (hcells : k + 1 ≤ R.cells) (hslots : n + N ≤ R.slots)
    (kk : Rn G M R E Z true sh2 (k + 1) (n + N) (pc + 3) lv (Rf G a :: st) σ) : Rn G M R E Z true sh k n pc lv (I z :: st) σ := by
  intro p l e s m args below meth c H locs ls F
  subst hsh ha hz
  have hsz : H.size = G.1 + sh.length := F.hw.2 rfl
  have hS := F.fs
  have hn9 : (Int32.ofInt (N : Int)).toNatClampNeg = N := by have := oI_nat (z := (N : Int)) (by omega) (by omega); omega
  refine W.anew F.1 F.2.1 F.own (F.wd _ hcl) (va_AO.use (hE _ _ _ _ F.2.2.2.2.2.2.2.2.2.2.2.2)) rfl hdg rfl (by rw [oI_0, oI_lt (by omega)]; omega) (by rw [hn9]; omega) hcells (by rw [hn9]; exact hslots) fun cA kA comp f1 f2 f3 f4 => ?_
  rw [hn9]
  generalize hH1 : H.push ({ cls := cA, slots := Array.replicate N .null, vm := .none } : Cell) = H1
  have z1 : H1.size = G.1 + sh.length + 1 := by rw [← hH1, Array.size_push, hsz]
  have e1 : H1[G.1 + sh.length]? = some (arrV cA N (fun _ => .null)) := by rw [← hH1, ← hsz, Array.getElem?_push_size, ← arrV_new]
  have o1 : ∀ q : Nat, q < G.1 + sh.length → H1[q]? = H[q]? := fun q hq => by rw [← hH1, Array.getElem?_push, if_neg (by rw [hsz]; exact Nat.ne_of_lt hq)]
  rw [hsz]
  have hcA : cA = G.2.2.2.2.1 := by
    obtain ⟨-, -, -, -, -, h4⟩ := (F.tb.1.2 2 _ rfl).2
    exact Option.some.inj (f1.symm.trans h4)
  subst hcA
  have hk : ∀ (k : Nat) (x : Nat × va_E), (wl G sh σ)[k]? = some x → H1[x.1]? = H[x.1]? := fun k x hx => o1 x.1 (by rw [← hsz]; exact (F.hw.1 k x hx).lt)
  refine kk p l e s m args below meth c H1 locs ls (F.hp ⟨?_, fun _ => by rw [z1, List.length_append]; rfl⟩ ⟨Nat.le_trans hS.1 (by omega), fun x h1 h2 => (o1 x (by have := hS.1; omega)).trans (hS.2.1 x h1 h2), hS.2.2⟩)
  rw [← wl_push (q := G.1 + sh.length) rfl]
  refine (F.hw.1.kept hk).app (fun k x hx => ?_)
  have hz : k < 1 := (List.getElem?_eq_some_iff.mp hx).1
  rw [show k = 0 by omega] at hx
  cases hx
  show H1[G.1 + sh.length]? = some (vp_cell _ _)
  rw [vp_cell_q]
  exact e1
theorem r_aastn {a b N : Nat} {fks : List FK} {g g2 : Nat → Option Nat} {i : Int} (hdg : decode M.2.1 pc = .ok (.aastore, 1)) (hs : sh[a]? = some (.inr (.inr (.inr (N, g))))) (hb : sh[b]? = some (.inl (5, fks))) (hi : 0 ≤ i ∧ i < (N : Int) ∧ (N : Int) ≤ 2147483647)
    (hg2 : va_up g i.toNat (some b) = g2) (hsh : sh.set a (.inr (.inr (.inr (N, g2)))) = sh2) (kk : Rn G M R E Z ex sh2 k n (pc + 1) lv st σ) : Rn G M R E Z ex sh k n pc lv (Rf G b :: I i :: Rf G a :: st) σ := by
  intro p l e s m args below meth c H locs ls F
  subst hsh hg2
  have hS := F.fs
  have hin := oI_in hi
  have hlt : (Int32.ofInt i).toNatClampNeg < N := Nat.not_le.mp fun q => hin (Or.inr q)
  have h0 : ¬ Int32.ofInt i < 0 := fun q => hin (Or.inl q)
  obtain ⟨r', hr', cellV, g1, g2, g3, -⟩ := F.hw.1 b _ (wl_get hb)
  have hcls := (F.tb.1.1 5 _ rfl).2
  obtain ⟨kA, comp, k1, k2, k3, -⟩ := (F.tb.1.2 2 _ rfl).2
  have hcomp : comp = G.2.1.1 5 := Option.some.inj (k3.symm.trans hcls.1)
  subst hcomp
  obtain ⟨kC, hkC, -⟩ := hcls.2
  have hcell : va_at G.2.1 vwCl (G.1 + a, ent G (σ a) (.inr (.inr (.inr (N, g))))) H := F.hw.1 a _ (wl_get hs)
  refine W.aast F.1 F.2.1 hcell (fun q h => by cases h) (fun h => by cases h) k1 k2 rfl hkC ⟨h0, by show _ < (arrV _ _ _).slots.size; rw [arrV_size]; exact hlt⟩ g1 (fun q h => by rw [g3] at h; cases h) (by rw [g2]; exact hkC) (by rw [g2]; exact va_assign hcls) rfl rfl hdg fun H1 e9 z oq => ?_
  refine kk p l e s m args below meth c H1 _ ls (F.hp ⟨?_, fun q => by rw [z, List.length_set]; exact F.hw.2 q⟩ (hS.put z oq Aq_in))
  rw [← wl_set (σ := σ) (σ' := σ) hs (fun _ _ => rfl)]
  refine F.hw.1.set (A := Aq G) wl_D (wl_get hs) ?_ oq
  show H1[G.1 + a]? = some (vp_cell _ _)
  rw [e9]
  rw [vp_cell_q, vp_cell_q, arrV_store]
  have hi9 : (Int32.ofInt i).toNatClampNeg = i.toNat := by have := oI_nat (z := i) (by omega) (by omega); omega
  rw [hi9]
  congr 2
  funext q
  by_cases hq : q = i.toNat
  · subst hq
    simp [updV, va_up, va_rf]
  · simp [updV, va_up, hq]
end NEWS
/-- a constructor that makes rows of references, or calls one -/
def CtN (G : GT) (M : MI) (d mc ms : Nat) (sh sh' : List Ob) (args : List Value) (σ : Sg) (Post : Option Value → Sg → Prop) : Prop :=
  ∀ l : Launch, Met l M.1 [Cond.code M.1 M.2.1 M.2.2.1 M.2.2.2] (rmD d mc ms) (fun a U => Pn G true sh args σ a U ∧ va_AO RX5 U) (Qn G true sh' Post) mc ms (Aq G)
theorem PN_blind {G : GT} {ex : Bool} {sh : List Ob} {As : List Value} {σ : Sg} : FrameBlind (fun a U => Pn G ex sh As σ a U ∧ va_AO RX5 U) := fun a U g mk q => ⟨Pn_blind a U g mk q.1, va_AO.moved (u := U) (U := U.calling g mk a) (Vm.Alike.refl U.vm) q.2⟩
section NEWC
variable {G : GT} {M : MI} {R : Room} {E : ET} {Z : ZT} {ex : Bool} {sh sh2 : List Ob} {k n : Nat} {pc : Nat} {lv lv' : List (Nat × Value)} {st : List Value} {σ : Sg}
theorem ctn_of {d mc ms : Nat} {As : List Value} {Post : Option Value → Sg → Prop} (hy : plainName M.1.cls = true) (hlen : (lg_sl As).length ≤ M.2.2.1) (hlv : lv_args 0 As = lv)
    (hR : Rn G M (rmD d mc ms) EA (Zn G true sh2 Post mc ms) true sh 0 0 0 lv [] σ) : CtN G M d mc ms sh sh2 As σ Post := by
  intro l
  refine Met.ofW (cc := M.2.1) (maxL := M.2.2.1) (ret := M.2.2.2) hy rfl ?_
  intro p e s m args below meth c s₁ B hml hv
  obtain ⟨⟨rfl, hTb, hHw⟩, hAO⟩ := hv
  have hx := B.exec
  have hb := B.bytes
  have hr := B.returns
  have hown : s.vm.findClass M.1.cls = some m.cls := findClass_of_methodNamed B.named
  have hlocks := B.notSynchronized
  have hin : meth.name = M.1.name := (name_of_methodNamed B.named B.method).1
  have hl := lv_entry As (n := M.2.2.1) hlen
  rw [lg_entry_eq]
  rw [hlv] at hl
  exact hR p l e s m _ below meth c s.heap [] _ ⟨hx, hb, hml, hr, hown, fun w hw => word_at (State.WarmedH.refl s) (TBG_gd hw) (hTb.2.1 w hw), hTb, hHw, va_S.rf, hl, hlocks, hin, hAO⟩
theorem r_callA {M2 : MI} {d2 mc ms b idx : Nat} {As rest st0 : List Value} {Post : Option Value → Sg → Prop} (hE : ∀ l s args c, E l s args c → va_AO RX5 s)
    (hC : CtN G M2 d2 mc ms sh sh2 (Rf G b :: As) σ Post) (hdg : decode M.2.1 pc = .ok (.invokespecial idx, 3)) (sv : SI M2 As.length) (hlink : Cond.methodLink M.1.cls idx M2.1 ∈ TBG)
    (hst : st0 = As.reverse ++ Rf G b :: rest) (hR : d2 + 1 ≤ R.frames ∧ 8 + (M2.2.2.1 + 11) + 40 * d2 ≤ R.locals) (hcat : (rest.map fun v => v.category).sum ≤ 8) (hf : k + mc ≤ R.cells ∧ n + ms ≤ R.slots)
    (kk : ∀ (r : Option Value) (σ' : Sg), Post r σ' → Rn G M R E Z true sh2 (k + mc) (n + ms) (pc + 3) lv (r.toList ++ rest) σ') : Rn G M R E Z true sh k n pc lv st0 σ := by
  refine r_run (mc := mc) (ms := ms) (As := (Rf G b :: As).toArray) (fun p l e s m args below meth c H locs ls F => ?_) kk
  obtain ⟨w0, w9, w1, w2, w3, hy⟩ := sv
  have hM := hC l
  have hAO := hE _ _ _ _ F.2.2.2.2.2.2.2.2.2.2.2.2
  rw [w0] at hM w3
  refine va_runI (Ts := TBG) (own := M.1.cls) (As := As) ⟨F.1, F.2.1, F.2.2.1, F.own, F.wd⟩ hM (cwI As.length F.wd (gi_of ?_) rfl rfl rfl (F.wd _ w2) (F.wd _ hlink) (F.wd _ w1) w9 hy hR) ⟨PN_blind, fun U hU hW => ⟨Pn_at F U hU hW, va_AO.moved hW.alike hAO⟩⟩ rfl rfl F.hl.1 hst ?_ hdg hf
  · intro w hw
    simp only [List.mem_cons, List.not_mem_nil, or_false] at hw
    rw [hw]
    exact w3
  · show 2 * 0 + _ ≤ 8
    omega
end NEWC


section SHE
variable {G : GT} {M : MI} {R : Room} {E : ET} {Z : ZT} {ex : Bool} {sh sh2 : List Ob} {k n : Nat} {pc : Nat} {lv : List (Nat × Value)} {st : List Value} {σ : Sg}
theorem r_shE (h : sh = sh2) (kk : Rn G M R E Z ex sh2 k n pc lv st σ) : Rn G M R E Z ex sh k n pc lv st σ := by rw [h]; exact kk
end SHE
theorem EA_ok : ∀ (l : Launch) (s : State) (args : Array Value) (c : Code), EA l s args c → va_AO RX5 s := fun _ _ _ _ h => h
/-- a new state object at a, its rows behind it -/
def InS (σ sv : Sg) (a : Nat) : Prop := (∀ q, q ≠ a → q ≠ a + 2 → sv q = σ q) ∧ (sv a 0 = 4 ∧ sv a 1 = 4 ∧ sv a 2 = 1 ∧ sv a 3 = 0 ∧ sv a 4 = 0 ∧ sv a 5 = 0) ∧ sv (a + 2) 0 = 1 ∧ ∀ j, j ≠ 0 → sv (a + 2) j = 0
def InH (σ sv : Sg) : Prop := (∀ q, (q < 18 ∨ 38 ≤ q) → sv q = σ q) ∧ sv 18 0 = 0 ∧ sv 18 1 = 0
def InO (σ sv : Sg) (a : Nat) : Prop := (∀ q, q ≠ a → q ≠ a + 1 → q ≠ a + 3 → sv q = σ q) ∧ sv a 0 = 0
def InT (σ sv : Sg) : Prop := (∀ q, q ≠ 15 → sv q = σ q) ∧ sv 15 0 = 0
def InX (σ sv : Sg) (a : Nat) : Prop := ∀ q, q ≠ a → sv q = σ q
def InC (sv : Sg) : Prop := (∀ q, 46 ≤ q → sv q = fun _ => 0) ∧ (sv 1 0 = 4 ∧ sv 1 1 = 4 ∧ sv 1 2 = 1 ∧ sv 1 3 = 0 ∧ sv 1 4 = 0 ∧ sv 1 5 = 0) ∧ (sv 3 0 = 1 ∧ ∀ j, j ≠ 0 → sv 3 j = 0) ∧ (sv 2 = fun _ => 0) ∧ (sv 6 = fun _ => 0) ∧ (sv 11 = fun _ => 0) ∧ (sv 13 = fun _ => 0) ∧ sv 15 0 = 0 ∧ (sv 18 0 = 0 ∧ sv 18 1 = 0) ∧ sv 38 0 = 0 ∧ sv 42 0 = 0
def InM9 (σ sv : Sg) : Prop := (∀ q, q ≠ 46 → q ≠ 47 → sv q = σ q) ∧ (∀ j, sv 46 j = 0) ∧ sv 47 0 = 4 ∧ sv 47 1 = 4 ∧ sv 47 5 = 1 ∧ sv 47 6 = 1 ∧ ∀ j, j ≠ 0 → j ≠ 1 → j ≠ 5 → j ≠ 6 → sv 47 j = 0
def gsv0 : Nat → Option Nat := fun _ => none
def gsv1 : Nat → Option Nat := va_up gsv0 0 (some 20)
def gsv2 : Nat → Option Nat := va_up gsv1 1 (some 23)
def gsv3 : Nat → Option Nat := va_up gsv2 2 (some 26)
def gsv4 : Nat → Option Nat := va_up gsv3 3 (some 29)
def gsv5 : Nat → Option Nat := va_up gsv4 4 (some 32)
def gsv6 : Nat → Option Nat := va_up gsv5 5 (some 35)
theorem gsv_is : gsv6 = svd := by
  funext i
  match i with
  | 0 => rfl
  | 1 => rfl
  | 2 => rfl
  | 3 => rfl
  | 4 => rfl
  | 5 => rfl
  | i + 6 =>
    unfold gsv6 gsv5 gsv4 gsv3 gsv2 gsv1 gsv0 svd
    rw [va_up_ne _ _ (by omega), va_up_ne _ _ (by omega), va_up_ne _ _ (by omega), va_up_ne _ _ (by omega), va_up_ne _ _ (by omega), va_up_ne _ _ (by omega)]
    rfl

theorem hfs0 {G : GT} : ∀ j, j < 5 → defaultValue (tyX0 j) = vp_V (([.inr none, .inr none, .inr none, .inr none, .inr none] : List FK).map (fun fk => cvF G.1 fk 0)) j := fun j hj => match j, hj with
  | 0, _ => rfl
  | 1, _ => rfl
  | 2, _ => rfl
  | 3, _ => rfl
  | 4, _ => rfl
  | n + 5, h => absurd h (by omega)
theorem hfs1 {G : GT} : ∀ j, j < 7 → defaultValue (tyX1 j) = vp_V (([.inr none, .inr none, .inr none, .inr none, .inr none, .inl false, .inl false] : List FK).map (fun fk => cvF G.1 fk 0)) j := fun j hj => match j, hj with
  | 0, _ => rfl
  | 1, _ => rfl
  | 2, _ => rfl
  | 3, _ => rfl
  | 4, _ => rfl
  | 5, _ => rfl
  | 6, _ => rfl
  | n + 7, h => absurd h (by omega)
theorem hfs2 {G : GT} : ∀ j, j < 3 → defaultValue (tyX2 j) = vp_V (([.inl false, .inl false, .inr none] : List FK).map (fun fk => cvF G.1 fk 0)) j := fun j hj => match j, hj with
  | 0, _ => rfl
  | 1, _ => rfl
  | 2, _ => rfl
  | n + 3, h => absurd h (by omega)
theorem hfs3 {G : GT} : ∀ j, j < 5 → defaultValue (tyX3 j) = vp_V (([.inl false, .inl false, .inl false, .inl false, .inr none] : List FK).map (fun fk => cvF G.1 fk 0)) j := fun j hj => match j, hj with
  | 0, _ => rfl
  | 1, _ => rfl
  | 2, _ => rfl
  | 3, _ => rfl
  | 4, _ => rfl
  | n + 5, h => absurd h (by omega)
theorem hfs4 {G : GT} : ∀ j, j < 2 → defaultValue (tyX4 j) = vp_V (([.inl false, .inr none] : List FK).map (fun fk => cvF G.1 fk 0)) j := fun j hj => match j, hj with
  | 0, _ => rfl
  | 1, _ => rfl
  | n + 2, h => absurd h (by omega)
theorem hfs5 {G : GT} : ∀ j, j < 8 → defaultValue (tyX5 j) = vp_V (([.inl false, .inl false, .inl false, .inl false, .inl false, .inl false, .inr none, .inr none] : List FK).map (fun fk => cvF G.1 fk 0)) j := fun j hj => match j, hj with
  | 0, _ => rfl
  | 1, _ => rfl
  | 2, _ => rfl
  | 3, _ => rfl
  | 4, _ => rfl
  | 5, _ => rfl
  | 6, _ => rfl
  | 7, _ => rfl
  | n + 8, h => absurd h (by omega)
theorem hfs6 {G : GT} : ∀ j, j < 8 → defaultValue (tyX6 j) = vp_V (([.inl false, .inr none, .inr none, .inl false, .inl false, .inl false, .inl false, .inl false] : List FK).map (fun fk => cvF G.1 fk 0)) j := fun j hj => match j, hj with
  | 0, _ => rfl
  | 1, _ => rfl
  | 2, _ => rfl
  | 3, _ => rfl
  | 4, _ => rfl
  | 5, _ => rfl
  | 6, _ => rfl
  | 7, _ => rfl
  | n + 8, h => absurd h (by omega)
theorem hfs7 {G : GT} : ∀ j, j < 8 → defaultValue (tyX7 j) = vp_V (([.inr none, .inr none, .inr none, .inr none, .inr none, .inr none, .inr none, .inr none] : List FK).map (fun fk => cvF G.1 fk 0)) j := fun j hj => match j, hj with
  | 0, _ => rfl
  | 1, _ => rfl
  | 2, _ => rfl
  | 3, _ => rfl
  | 4, _ => rfl
  | 5, _ => rfl
  | 6, _ => rfl
  | 7, _ => rfl
  | n + 8, h => absurd h (by omega)
def ms0 : List Ob := [.inl (7, [.inr none, .inr none, .inr none, .inr none, .inr none, .inr none, .inr none, .inr none])]
def ms1 : List Ob := [.inl (7, [.inr none, .inr none, .inr none, .inr none, .inr none, .inr none, .inr none, .inr none]), .inl (5, [.inl false, .inl false, .inl false, .inl false, .inl false, .inl false, .inr none, .inr none])]
def ms2 : List Ob := [.inl (7, [.inr none, .inr none, .inr none, .inr none, .inr none, .inr none, .inr none, .inr none]), .inl (5, [.inl false, .inl false, .inl false, .inl false, .inl false, .inl false, .inr none, .inr none])]
def ms3 : List Ob := [.inl (7, [.inr none, .inr none, .inr none, .inr none, .inr none, .inr none, .inr none, .inr none]), .inl (5, [.inl false, .inl false, .inl false, .inl false, .inl false, .inl false, .inr none, .inr none]), ob2]
def ms4 : List Ob := [.inl (7, [.inr none, .inr none, .inr none, .inr none, .inr none, .inr none, .inr none, .inr none]), .inl (5, [.inl false, .inl false, .inl false, .inl false, .inl false, .inl false, .inr (some 2), .inr none]), ob2]
def ms5 : List Ob := [.inl (7, [.inr none, .inr none, .inr none, .inr none, .inr none, .inr none, .inr none, .inr none]), .inl (5, [.inl false, .inl false, .inl false, .inl false, .inl false, .inl false, .inr (some 2), .inr none]), ob2, ob3]
def ms6 : List Ob := [.inl (7, [.inr none, .inr none, .inr none, .inr none, .inr none, .inr none, .inr none, .inr none]), ob1, ob2, ob3]
def ms7 : List Ob := [.inl (7, [.inr (some 1), .inr none, .inr none, .inr none, .inr none, .inr none, .inr none, .inr none]), ob1, ob2, ob3]
def ms8 : List Ob := [.inl (7, [.inr (some 1), .inr none, .inr none, .inr none, .inr none, .inr none, .inr none, .inr none]), ob1, ob2, ob3, .inl (3, [.inl false, .inl false, .inl false, .inl false, .inr none])]
def ms9 : List Ob := [.inl (7, [.inr (some 1), .inr none, .inr none, .inr none, .inr none, .inr none, .inr none, .inr none]), ob1, ob2, ob3, .inl (3, [.inl false, .inl false, .inl false, .inl false, .inr none])]
def ms10 : List Ob := [.inl (7, [.inr (some 1), .inr none, .inr none, .inr none, .inr none, .inr none, .inr none, .inr none]), ob1, ob2, ob3, ob4]
def ms11 : List Ob := [.inl (7, [.inr (some 1), .inr (some 4), .inr none, .inr none, .inr none, .inr none, .inr none, .inr none]), ob1, ob2, ob3, ob4]
def ms12 : List Ob := [.inl (7, [.inr (some 1), .inr (some 4), .inr none, .inr none, .inr none, .inr none, .inr none, .inr none]), ob1, ob2, ob3, ob4, .inl (1, [.inr none, .inr none, .inr none, .inr none, .inr none, .inl false, .inl false])]
def ms13 : List Ob := [.inl (7, [.inr (some 1), .inr (some 4), .inr none, .inr none, .inr none, .inr none, .inr none, .inr none]), ob1, ob2, ob3, ob4, .inl (1, [.inr none, .inr none, .inr none, .inr none, .inr none, .inl false, .inl false])]
def ms14 : List Ob := [.inl (7, [.inr (some 1), .inr (some 4), .inr none, .inr none, .inr none, .inr none, .inr none, .inr none]), ob1, ob2, ob3, ob4, .inl (1, [.inr none, .inr none, .inr none, .inr none, .inr none, .inl false, .inl false]), ob6]
def ms15 : List Ob := [.inl (7, [.inr (some 1), .inr (some 4), .inr none, .inr none, .inr none, .inr none, .inr none, .inr none]), ob1, ob2, ob3, ob4, .inl (1, [.inr none, .inr (some 6), .inr none, .inr none, .inr none, .inl false, .inl false]), ob6]
def ms16 : List Ob := [.inl (7, [.inr (some 1), .inr (some 4), .inr none, .inr none, .inr none, .inr none, .inr none, .inr none]), ob1, ob2, ob3, ob4, .inl (1, [.inr none, .inr (some 6), .inr none, .inr none, .inr none, .inl false, .inl false]), ob6, ob7]
def ms17 : List Ob := [.inl (7, [.inr (some 1), .inr (some 4), .inr none, .inr none, .inr none, .inr none, .inr none, .inr none]), ob1, ob2, ob3, ob4, .inl (1, [.inr none, .inr (some 6), .inr (some 7), .inr none, .inr none, .inl false, .inl false]), ob6, ob7]
def ms18 : List Ob := [.inl (7, [.inr (some 1), .inr (some 4), .inr none, .inr none, .inr none, .inr none, .inr none, .inr none]), ob1, ob2, ob3, ob4, .inl (1, [.inr none, .inr (some 6), .inr (some 7), .inr none, .inr none, .inl false, .inl false]), ob6, ob7, ob8]
def ms19 : List Ob := [.inl (7, [.inr (some 1), .inr (some 4), .inr none, .inr none, .inr none, .inr none, .inr none, .inr none]), ob1, ob2, ob3, ob4, .inl (1, [.inr none, .inr (some 6), .inr (some 7), .inr (some 8), .inr none, .inl false, .inl false]), ob6, ob7, ob8]
def ms20 : List Ob := [.inl (7, [.inr (some 1), .inr (some 4), .inr none, .inr none, .inr none, .inr none, .inr none, .inr none]), ob1, ob2, ob3, ob4, .inl (1, [.inr none, .inr (some 6), .inr (some 7), .inr (some 8), .inr none, .inl false, .inl false]), ob6, ob7, ob8, ob9]
def ms21 : List Ob := [.inl (7, [.inr (some 1), .inr (some 4), .inr none, .inr none, .inr none, .inr none, .inr none, .inr none]), ob1, ob2, ob3, ob4, .inl (1, [.inr none, .inr (some 6), .inr (some 7), .inr (some 8), .inr (some 9), .inl false, .inl false]), ob6, ob7, ob8, ob9]
def ms22 : List Ob := [.inl (7, [.inr (some 1), .inr (some 4), .inr none, .inr none, .inr none, .inr none, .inr none, .inr none]), ob1, ob2, ob3, ob4, ob5, ob6, ob7, ob8, ob9]
def ms23 : List Ob := [.inl (7, [.inr (some 1), .inr (some 4), .inr (some 5), .inr none, .inr none, .inr none, .inr none, .inr none]), ob1, ob2, ob3, ob4, ob5, ob6, ob7, ob8, ob9]
def ms24 : List Ob := [.inl (7, [.inr (some 1), .inr (some 4), .inr (some 5), .inr none, .inr none, .inr none, .inr none, .inr none]), ob1, ob2, ob3, ob4, ob5, ob6, ob7, ob8, ob9, .inl (0, [.inr none, .inr none, .inr none, .inr none, .inr none])]
def ms25 : List Ob := [.inl (7, [.inr (some 1), .inr (some 4), .inr (some 5), .inr none, .inr none, .inr none, .inr none, .inr none]), ob1, ob2, ob3, ob4, ob5, ob6, ob7, ob8, ob9, .inl (0, [.inr none, .inr none, .inr none, .inr none, .inr none])]
def ms26 : List Ob := [.inl (7, [.inr (some 1), .inr (some 4), .inr (some 5), .inr none, .inr none, .inr none, .inr none, .inr none]), ob1, ob2, ob3, ob4, ob5, ob6, ob7, ob8, ob9, .inl (0, [.inr none, .inr none, .inr none, .inr none, .inr none]), ob11]
def ms27 : List Ob := [.inl (7, [.inr (some 1), .inr (some 4), .inr (some 5), .inr none, .inr none, .inr none, .inr none, .inr none]), ob1, ob2, ob3, ob4, ob5, ob6, ob7, ob8, ob9, .inl (0, [.inr none, .inr (some 11), .inr none, .inr none, .inr none]), ob11]
def ms28 : List Ob := [.inl (7, [.inr (some 1), .inr (some 4), .inr (some 5), .inr none, .inr none, .inr none, .inr none, .inr none]), ob1, ob2, ob3, ob4, ob5, ob6, ob7, ob8, ob9, .inl (0, [.inr none, .inr (some 11), .inr none, .inr none, .inr none]), ob11, ob12]
def ms29 : List Ob := [.inl (7, [.inr (some 1), .inr (some 4), .inr (some 5), .inr none, .inr none, .inr none, .inr none, .inr none]), ob1, ob2, ob3, ob4, ob5, ob6, ob7, ob8, ob9, .inl (0, [.inr none, .inr (some 11), .inr (some 12), .inr none, .inr none]), ob11, ob12]
def ms30 : List Ob := [.inl (7, [.inr (some 1), .inr (some 4), .inr (some 5), .inr none, .inr none, .inr none, .inr none, .inr none]), ob1, ob2, ob3, ob4, ob5, ob6, ob7, ob8, ob9, .inl (0, [.inr none, .inr (some 11), .inr (some 12), .inr none, .inr none]), ob11, ob12, ob13]
def ms31 : List Ob := [.inl (7, [.inr (some 1), .inr (some 4), .inr (some 5), .inr none, .inr none, .inr none, .inr none, .inr none]), ob1, ob2, ob3, ob4, ob5, ob6, ob7, ob8, ob9, .inl (0, [.inr none, .inr (some 11), .inr (some 12), .inr (some 13), .inr none]), ob11, ob12, ob13]
def ms32 : List Ob := [.inl (7, [.inr (some 1), .inr (some 4), .inr (some 5), .inr none, .inr none, .inr none, .inr none, .inr none]), ob1, ob2, ob3, ob4, ob5, ob6, ob7, ob8, ob9, .inl (0, [.inr none, .inr (some 11), .inr (some 12), .inr (some 13), .inr none]), ob11, ob12, ob13, ob14]
def ms33 : List Ob := [.inl (7, [.inr (some 1), .inr (some 4), .inr (some 5), .inr none, .inr none, .inr none, .inr none, .inr none]), ob1, ob2, ob3, ob4, ob5, ob6, ob7, ob8, ob9, .inl (0, [.inr none, .inr (some 11), .inr (some 12), .inr (some 13), .inr (some 14)]), ob11, ob12, ob13, ob14]
def ms34 : List Ob := [.inl (7, [.inr (some 1), .inr (some 4), .inr (some 5), .inr none, .inr none, .inr none, .inr none, .inr none]), ob1, ob2, ob3, ob4, ob5, ob6, ob7, ob8, ob9, ob10, ob11, ob12, ob13, ob14]
def ms35 : List Ob := [.inl (7, [.inr (some 1), .inr (some 4), .inr (some 5), .inr (some 10), .inr none, .inr none, .inr none, .inr none]), ob1, ob2, ob3, ob4, ob5, ob6, ob7, ob8, ob9, ob10, ob11, ob12, ob13, ob14]
def ms36 : List Ob := [.inl (7, [.inr (some 1), .inr (some 4), .inr (some 5), .inr (some 10), .inr none, .inr none, .inr none, .inr none]), ob1, ob2, ob3, ob4, ob5, ob6, ob7, ob8, ob9, ob10, ob11, ob12, ob13, ob14, .inl (6, [.inl false, .inr none, .inr none, .inl false, .inl false, .inl false, .inl false, .inl false])]
def ms37 : List Ob := [.inl (7, [.inr (some 1), .inr (some 4), .inr (some 5), .inr (some 10), .inr none, .inr none, .inr none, .inr none]), ob1, ob2, ob3, ob4, ob5, ob6, ob7, ob8, ob9, ob10, ob11, ob12, ob13, ob14, .inl (6, [.inl false, .inr none, .inr none, .inl false, .inl false, .inl false, .inl false, .inl false])]
def ms38 : List Ob := [.inl (7, [.inr (some 1), .inr (some 4), .inr (some 5), .inr (some 10), .inr none, .inr none, .inr none, .inr none]), ob1, ob2, ob3, ob4, ob5, ob6, ob7, ob8, ob9, ob10, ob11, ob12, ob13, ob14, .inl (6, [.inl false, .inr none, .inr none, .inl false, .inl false, .inl false, .inl false, .inl false]), ob16]
def ms39 : List Ob := [.inl (7, [.inr (some 1), .inr (some 4), .inr (some 5), .inr (some 10), .inr none, .inr none, .inr none, .inr none]), ob1, ob2, ob3, ob4, ob5, ob6, ob7, ob8, ob9, ob10, ob11, ob12, ob13, ob14, .inl (6, [.inl false, .inr (some 16), .inr none, .inl false, .inl false, .inl false, .inl false, .inl false]), ob16]
def ms40 : List Ob := [.inl (7, [.inr (some 1), .inr (some 4), .inr (some 5), .inr (some 10), .inr none, .inr none, .inr none, .inr none]), ob1, ob2, ob3, ob4, ob5, ob6, ob7, ob8, ob9, ob10, ob11, ob12, ob13, ob14, .inl (6, [.inl false, .inr (some 16), .inr none, .inl false, .inl false, .inl false, .inl false, .inl false]), ob16, ob17]
def ms41 : List Ob := [.inl (7, [.inr (some 1), .inr (some 4), .inr (some 5), .inr (some 10), .inr none, .inr none, .inr none, .inr none]), ob1, ob2, ob3, ob4, ob5, ob6, ob7, ob8, ob9, ob10, ob11, ob12, ob13, ob14, ob15, ob16, ob17]
def ms42 : List Ob := [.inl (7, [.inr (some 1), .inr (some 4), .inr (some 5), .inr (some 10), .inr (some 15), .inr none, .inr none, .inr none]), ob1, ob2, ob3, ob4, ob5, ob6, ob7, ob8, ob9, ob10, ob11, ob12, ob13, ob14, ob15, ob16, ob17]
def ms43 : List Ob := [.inl (7, [.inr (some 1), .inr (some 4), .inr (some 5), .inr (some 10), .inr (some 15), .inr none, .inr none, .inr none]), ob1, ob2, ob3, ob4, ob5, ob6, ob7, ob8, ob9, ob10, ob11, ob12, ob13, ob14, ob15, ob16, ob17, .inl (2, [.inl false, .inl false, .inr none])]
def ms44 : List Ob := [.inl (7, [.inr (some 1), .inr (some 4), .inr (some 5), .inr (some 10), .inr (some 15), .inr none, .inr none, .inr none]), ob1, ob2, ob3, ob4, ob5, ob6, ob7, ob8, ob9, ob10, ob11, ob12, ob13, ob14, ob15, ob16, ob17, .inl (2, [.inl false, .inl false, .inr none])]
def ms45 : List Ob := [.inl (7, [.inr (some 1), .inr (some 4), .inr (some 5), .inr (some 10), .inr (some 15), .inr none, .inr none, .inr none]), ob1, ob2, ob3, ob4, ob5, ob6, ob7, ob8, ob9, ob10, ob11, ob12, ob13, ob14, ob15, ob16, ob17, .inl (2, [.inl false, .inl false, .inr none]), .inr (.inr (.inr (6, gsv0)))]
def ms46 : List Ob := [.inl (7, [.inr (some 1), .inr (some 4), .inr (some 5), .inr (some 10), .inr (some 15), .inr none, .inr none, .inr none]), ob1, ob2, ob3, ob4, ob5, ob6, ob7, ob8, ob9, ob10, ob11, ob12, ob13, ob14, ob15, ob16, ob17, ob18, .inr (.inr (.inr (6, gsv0)))]
def ms47 : List Ob := [.inl (7, [.inr (some 1), .inr (some 4), .inr (some 5), .inr (some 10), .inr (some 15), .inr none, .inr none, .inr none]), ob1, ob2, ob3, ob4, ob5, ob6, ob7, ob8, ob9, ob10, ob11, ob12, ob13, ob14, ob15, ob16, ob17, ob18, .inr (.inr (.inr (6, gsv0))), .inl (5, [.inl false, .inl false, .inl false, .inl false, .inl false, .inl false, .inr none, .inr none])]
def ms48 : List Ob := [.inl (7, [.inr (some 1), .inr (some 4), .inr (some 5), .inr (some 10), .inr (some 15), .inr none, .inr none, .inr none]), ob1, ob2, ob3, ob4, ob5, ob6, ob7, ob8, ob9, ob10, ob11, ob12, ob13, ob14, ob15, ob16, ob17, ob18, .inr (.inr (.inr (6, gsv0))), .inl (5, [.inl false, .inl false, .inl false, .inl false, .inl false, .inl false, .inr none, .inr none])]
def ms49 : List Ob := [.inl (7, [.inr (some 1), .inr (some 4), .inr (some 5), .inr (some 10), .inr (some 15), .inr none, .inr none, .inr none]), ob1, ob2, ob3, ob4, ob5, ob6, ob7, ob8, ob9, ob10, ob11, ob12, ob13, ob14, ob15, ob16, ob17, ob18, .inr (.inr (.inr (6, gsv0))), .inl (5, [.inl false, .inl false, .inl false, .inl false, .inl false, .inl false, .inr none, .inr none]), ob21]
def ms50 : List Ob := [.inl (7, [.inr (some 1), .inr (some 4), .inr (some 5), .inr (some 10), .inr (some 15), .inr none, .inr none, .inr none]), ob1, ob2, ob3, ob4, ob5, ob6, ob7, ob8, ob9, ob10, ob11, ob12, ob13, ob14, ob15, ob16, ob17, ob18, .inr (.inr (.inr (6, gsv0))), .inl (5, [.inl false, .inl false, .inl false, .inl false, .inl false, .inl false, .inr (some 21), .inr none]), ob21]
def ms51 : List Ob := [.inl (7, [.inr (some 1), .inr (some 4), .inr (some 5), .inr (some 10), .inr (some 15), .inr none, .inr none, .inr none]), ob1, ob2, ob3, ob4, ob5, ob6, ob7, ob8, ob9, ob10, ob11, ob12, ob13, ob14, ob15, ob16, ob17, ob18, .inr (.inr (.inr (6, gsv0))), .inl (5, [.inl false, .inl false, .inl false, .inl false, .inl false, .inl false, .inr (some 21), .inr none]), ob21, ob22]
def ms52 : List Ob := [.inl (7, [.inr (some 1), .inr (some 4), .inr (some 5), .inr (some 10), .inr (some 15), .inr none, .inr none, .inr none]), ob1, ob2, ob3, ob4, ob5, ob6, ob7, ob8, ob9, ob10, ob11, ob12, ob13, ob14, ob15, ob16, ob17, ob18, .inr (.inr (.inr (6, gsv0))), ob20, ob21, ob22]
def ms53 : List Ob := [.inl (7, [.inr (some 1), .inr (some 4), .inr (some 5), .inr (some 10), .inr (some 15), .inr none, .inr none, .inr none]), ob1, ob2, ob3, ob4, ob5, ob6, ob7, ob8, ob9, ob10, ob11, ob12, ob13, ob14, ob15, ob16, ob17, ob18, .inr (.inr (.inr (6, gsv1))), ob20, ob21, ob22]
def ms54 : List Ob := [.inl (7, [.inr (some 1), .inr (some 4), .inr (some 5), .inr (some 10), .inr (some 15), .inr none, .inr none, .inr none]), ob1, ob2, ob3, ob4, ob5, ob6, ob7, ob8, ob9, ob10, ob11, ob12, ob13, ob14, ob15, ob16, ob17, ob18, .inr (.inr (.inr (6, gsv1))), ob20, ob21, ob22, .inl (5, [.inl false, .inl false, .inl false, .inl false, .inl false, .inl false, .inr none, .inr none])]
def ms55 : List Ob := [.inl (7, [.inr (some 1), .inr (some 4), .inr (some 5), .inr (some 10), .inr (some 15), .inr none, .inr none, .inr none]), ob1, ob2, ob3, ob4, ob5, ob6, ob7, ob8, ob9, ob10, ob11, ob12, ob13, ob14, ob15, ob16, ob17, ob18, .inr (.inr (.inr (6, gsv1))), ob20, ob21, ob22, .inl (5, [.inl false, .inl false, .inl false, .inl false, .inl false, .inl false, .inr none, .inr none])]
def ms56 : List Ob := [.inl (7, [.inr (some 1), .inr (some 4), .inr (some 5), .inr (some 10), .inr (some 15), .inr none, .inr none, .inr none]), ob1, ob2, ob3, ob4, ob5, ob6, ob7, ob8, ob9, ob10, ob11, ob12, ob13, ob14, ob15, ob16, ob17, ob18, .inr (.inr (.inr (6, gsv1))), ob20, ob21, ob22, .inl (5, [.inl false, .inl false, .inl false, .inl false, .inl false, .inl false, .inr none, .inr none]), ob24]
def ms57 : List Ob := [.inl (7, [.inr (some 1), .inr (some 4), .inr (some 5), .inr (some 10), .inr (some 15), .inr none, .inr none, .inr none]), ob1, ob2, ob3, ob4, ob5, ob6, ob7, ob8, ob9, ob10, ob11, ob12, ob13, ob14, ob15, ob16, ob17, ob18, .inr (.inr (.inr (6, gsv1))), ob20, ob21, ob22, .inl (5, [.inl false, .inl false, .inl false, .inl false, .inl false, .inl false, .inr (some 24), .inr none]), ob24]
def ms58 : List Ob := [.inl (7, [.inr (some 1), .inr (some 4), .inr (some 5), .inr (some 10), .inr (some 15), .inr none, .inr none, .inr none]), ob1, ob2, ob3, ob4, ob5, ob6, ob7, ob8, ob9, ob10, ob11, ob12, ob13, ob14, ob15, ob16, ob17, ob18, .inr (.inr (.inr (6, gsv1))), ob20, ob21, ob22, .inl (5, [.inl false, .inl false, .inl false, .inl false, .inl false, .inl false, .inr (some 24), .inr none]), ob24, ob25]
def ms59 : List Ob := [.inl (7, [.inr (some 1), .inr (some 4), .inr (some 5), .inr (some 10), .inr (some 15), .inr none, .inr none, .inr none]), ob1, ob2, ob3, ob4, ob5, ob6, ob7, ob8, ob9, ob10, ob11, ob12, ob13, ob14, ob15, ob16, ob17, ob18, .inr (.inr (.inr (6, gsv1))), ob20, ob21, ob22, ob23, ob24, ob25]
def ms60 : List Ob := [.inl (7, [.inr (some 1), .inr (some 4), .inr (some 5), .inr (some 10), .inr (some 15), .inr none, .inr none, .inr none]), ob1, ob2, ob3, ob4, ob5, ob6, ob7, ob8, ob9, ob10, ob11, ob12, ob13, ob14, ob15, ob16, ob17, ob18, .inr (.inr (.inr (6, gsv2))), ob20, ob21, ob22, ob23, ob24, ob25]
def ms61 : List Ob := [.inl (7, [.inr (some 1), .inr (some 4), .inr (some 5), .inr (some 10), .inr (some 15), .inr none, .inr none, .inr none]), ob1, ob2, ob3, ob4, ob5, ob6, ob7, ob8, ob9, ob10, ob11, ob12, ob13, ob14, ob15, ob16, ob17, ob18, .inr (.inr (.inr (6, gsv2))), ob20, ob21, ob22, ob23, ob24, ob25, .inl (5, [.inl false, .inl false, .inl false, .inl false, .inl false, .inl false, .inr none, .inr none])]
def ms62 : List Ob := [.inl (7, [.inr (some 1), .inr (some 4), .inr (some 5), .inr (some 10), .inr (some 15), .inr none, .inr none, .inr none]), ob1, ob2, ob3, ob4, ob5, ob6, ob7, ob8, ob9, ob10, ob11, ob12, ob13, ob14, ob15, ob16, ob17, ob18, .inr (.inr (.inr (6, gsv2))), ob20, ob21, ob22, ob23, ob24, ob25, .inl (5, [.inl false, .inl false, .inl false, .inl false, .inl false, .inl false, .inr none, .inr none])]
def ms63 : List Ob := [.inl (7, [.inr (some 1), .inr (some 4), .inr (some 5), .inr (some 10), .inr (some 15), .inr none, .inr none, .inr none]), ob1, ob2, ob3, ob4, ob5, ob6, ob7, ob8, ob9, ob10, ob11, ob12, ob13, ob14, ob15, ob16, ob17, ob18, .inr (.inr (.inr (6, gsv2))), ob20, ob21, ob22, ob23, ob24, ob25, .inl (5, [.inl false, .inl false, .inl false, .inl false, .inl false, .inl false, .inr none, .inr none]), ob27]
def ms64 : List Ob := [.inl (7, [.inr (some 1), .inr (some 4), .inr (some 5), .inr (some 10), .inr (some 15), .inr none, .inr none, .inr none]), ob1, ob2, ob3, ob4, ob5, ob6, ob7, ob8, ob9, ob10, ob11, ob12, ob13, ob14, ob15, ob16, ob17, ob18, .inr (.inr (.inr (6, gsv2))), ob20, ob21, ob22, ob23, ob24, ob25, .inl (5, [.inl false, .inl false, .inl false, .inl false, .inl false, .inl false, .inr (some 27), .inr none]), ob27]
def ms65 : List Ob := [.inl (7, [.inr (some 1), .inr (some 4), .inr (some 5), .inr (some 10), .inr (some 15), .inr none, .inr none, .inr none]), ob1, ob2, ob3, ob4, ob5, ob6, ob7, ob8, ob9, ob10, ob11, ob12, ob13, ob14, ob15, ob16, ob17, ob18, .inr (.inr (.inr (6, gsv2))), ob20, ob21, ob22, ob23, ob24, ob25, .inl (5, [.inl false, .inl false, .inl false, .inl false, .inl false, .inl false, .inr (some 27), .inr none]), ob27, ob28]
def ms66 : List Ob := [.inl (7, [.inr (some 1), .inr (some 4), .inr (some 5), .inr (some 10), .inr (some 15), .inr none, .inr none, .inr none]), ob1, ob2, ob3, ob4, ob5, ob6, ob7, ob8, ob9, ob10, ob11, ob12, ob13, ob14, ob15, ob16, ob17, ob18, .inr (.inr (.inr (6, gsv2))), ob20, ob21, ob22, ob23, ob24, ob25, ob26, ob27, ob28]
def ms67 : List Ob := [.inl (7, [.inr (some 1), .inr (some 4), .inr (some 5), .inr (some 10), .inr (some 15), .inr none, .inr none, .inr none]), ob1, ob2, ob3, ob4, ob5, ob6, ob7, ob8, ob9, ob10, ob11, ob12, ob13, ob14, ob15, ob16, ob17, ob18, .inr (.inr (.inr (6, gsv3))), ob20, ob21, ob22, ob23, ob24, ob25, ob26, ob27, ob28]
def ms68 : List Ob := [.inl (7, [.inr (some 1), .inr (some 4), .inr (some 5), .inr (some 10), .inr (some 15), .inr none, .inr none, .inr none]), ob1, ob2, ob3, ob4, ob5, ob6, ob7, ob8, ob9, ob10, ob11, ob12, ob13, ob14, ob15, ob16, ob17, ob18, .inr (.inr (.inr (6, gsv3))), ob20, ob21, ob22, ob23, ob24, ob25, ob26, ob27, ob28, .inl (5, [.inl false, .inl false, .inl false, .inl false, .inl false, .inl false, .inr none, .inr none])]
def ms69 : List Ob := [.inl (7, [.inr (some 1), .inr (some 4), .inr (some 5), .inr (some 10), .inr (some 15), .inr none, .inr none, .inr none]), ob1, ob2, ob3, ob4, ob5, ob6, ob7, ob8, ob9, ob10, ob11, ob12, ob13, ob14, ob15, ob16, ob17, ob18, .inr (.inr (.inr (6, gsv3))), ob20, ob21, ob22, ob23, ob24, ob25, ob26, ob27, ob28, .inl (5, [.inl false, .inl false, .inl false, .inl false, .inl false, .inl false, .inr none, .inr none])]
def ms70 : List Ob := [.inl (7, [.inr (some 1), .inr (some 4), .inr (some 5), .inr (some 10), .inr (some 15), .inr none, .inr none, .inr none]), ob1, ob2, ob3, ob4, ob5, ob6, ob7, ob8, ob9, ob10, ob11, ob12, ob13, ob14, ob15, ob16, ob17, ob18, .inr (.inr (.inr (6, gsv3))), ob20, ob21, ob22, ob23, ob24, ob25, ob26, ob27, ob28, .inl (5, [.inl false, .inl false, .inl false, .inl false, .inl false, .inl false, .inr none, .inr none]), ob30]
def ms71 : List Ob := [.inl (7, [.inr (some 1), .inr (some 4), .inr (some 5), .inr (some 10), .inr (some 15), .inr none, .inr none, .inr none]), ob1, ob2, ob3, ob4, ob5, ob6, ob7, ob8, ob9, ob10, ob11, ob12, ob13, ob14, ob15, ob16, ob17, ob18, .inr (.inr (.inr (6, gsv3))), ob20, ob21, ob22, ob23, ob24, ob25, ob26, ob27, ob28, .inl (5, [.inl false, .inl false, .inl false, .inl false, .inl false, .inl false, .inr (some 30), .inr none]), ob30]
def ms72 : List Ob := [.inl (7, [.inr (some 1), .inr (some 4), .inr (some 5), .inr (some 10), .inr (some 15), .inr none, .inr none, .inr none]), ob1, ob2, ob3, ob4, ob5, ob6, ob7, ob8, ob9, ob10, ob11, ob12, ob13, ob14, ob15, ob16, ob17, ob18, .inr (.inr (.inr (6, gsv3))), ob20, ob21, ob22, ob23, ob24, ob25, ob26, ob27, ob28, .inl (5, [.inl false, .inl false, .inl false, .inl false, .inl false, .inl false, .inr (some 30), .inr none]), ob30, ob31]
def ms73 : List Ob := [.inl (7, [.inr (some 1), .inr (some 4), .inr (some 5), .inr (some 10), .inr (some 15), .inr none, .inr none, .inr none]), ob1, ob2, ob3, ob4, ob5, ob6, ob7, ob8, ob9, ob10, ob11, ob12, ob13, ob14, ob15, ob16, ob17, ob18, .inr (.inr (.inr (6, gsv3))), ob20, ob21, ob22, ob23, ob24, ob25, ob26, ob27, ob28, ob29, ob30, ob31]
def ms74 : List Ob := [.inl (7, [.inr (some 1), .inr (some 4), .inr (some 5), .inr (some 10), .inr (some 15), .inr none, .inr none, .inr none]), ob1, ob2, ob3, ob4, ob5, ob6, ob7, ob8, ob9, ob10, ob11, ob12, ob13, ob14, ob15, ob16, ob17, ob18, .inr (.inr (.inr (6, gsv4))), ob20, ob21, ob22, ob23, ob24, ob25, ob26, ob27, ob28, ob29, ob30, ob31]
def ms75 : List Ob := [.inl (7, [.inr (some 1), .inr (some 4), .inr (some 5), .inr (some 10), .inr (some 15), .inr none, .inr none, .inr none]), ob1, ob2, ob3, ob4, ob5, ob6, ob7, ob8, ob9, ob10, ob11, ob12, ob13, ob14, ob15, ob16, ob17, ob18, .inr (.inr (.inr (6, gsv4))), ob20, ob21, ob22, ob23, ob24, ob25, ob26, ob27, ob28, ob29, ob30, ob31, .inl (5, [.inl false, .inl false, .inl false, .inl false, .inl false, .inl false, .inr none, .inr none])]
def ms76 : List Ob := [.inl (7, [.inr (some 1), .inr (some 4), .inr (some 5), .inr (some 10), .inr (some 15), .inr none, .inr none, .inr none]), ob1, ob2, ob3, ob4, ob5, ob6, ob7, ob8, ob9, ob10, ob11, ob12, ob13, ob14, ob15, ob16, ob17, ob18, .inr (.inr (.inr (6, gsv4))), ob20, ob21, ob22, ob23, ob24, ob25, ob26, ob27, ob28, ob29, ob30, ob31, .inl (5, [.inl false, .inl false, .inl false, .inl false, .inl false, .inl false, .inr none, .inr none])]
def ms77 : List Ob := [.inl (7, [.inr (some 1), .inr (some 4), .inr (some 5), .inr (some 10), .inr (some 15), .inr none, .inr none, .inr none]), ob1, ob2, ob3, ob4, ob5, ob6, ob7, ob8, ob9, ob10, ob11, ob12, ob13, ob14, ob15, ob16, ob17, ob18, .inr (.inr (.inr (6, gsv4))), ob20, ob21, ob22, ob23, ob24, ob25, ob26, ob27, ob28, ob29, ob30, ob31, .inl (5, [.inl false, .inl false, .inl false, .inl false, .inl false, .inl false, .inr none, .inr none]), ob33]
def ms78 : List Ob := [.inl (7, [.inr (some 1), .inr (some 4), .inr (some 5), .inr (some 10), .inr (some 15), .inr none, .inr none, .inr none]), ob1, ob2, ob3, ob4, ob5, ob6, ob7, ob8, ob9, ob10, ob11, ob12, ob13, ob14, ob15, ob16, ob17, ob18, .inr (.inr (.inr (6, gsv4))), ob20, ob21, ob22, ob23, ob24, ob25, ob26, ob27, ob28, ob29, ob30, ob31, .inl (5, [.inl false, .inl false, .inl false, .inl false, .inl false, .inl false, .inr (some 33), .inr none]), ob33]
def ms79 : List Ob := [.inl (7, [.inr (some 1), .inr (some 4), .inr (some 5), .inr (some 10), .inr (some 15), .inr none, .inr none, .inr none]), ob1, ob2, ob3, ob4, ob5, ob6, ob7, ob8, ob9, ob10, ob11, ob12, ob13, ob14, ob15, ob16, ob17, ob18, .inr (.inr (.inr (6, gsv4))), ob20, ob21, ob22, ob23, ob24, ob25, ob26, ob27, ob28, ob29, ob30, ob31, .inl (5, [.inl false, .inl false, .inl false, .inl false, .inl false, .inl false, .inr (some 33), .inr none]), ob33, ob34]
def ms80 : List Ob := [.inl (7, [.inr (some 1), .inr (some 4), .inr (some 5), .inr (some 10), .inr (some 15), .inr none, .inr none, .inr none]), ob1, ob2, ob3, ob4, ob5, ob6, ob7, ob8, ob9, ob10, ob11, ob12, ob13, ob14, ob15, ob16, ob17, ob18, .inr (.inr (.inr (6, gsv4))), ob20, ob21, ob22, ob23, ob24, ob25, ob26, ob27, ob28, ob29, ob30, ob31, ob32, ob33, ob34]
def ms81 : List Ob := [.inl (7, [.inr (some 1), .inr (some 4), .inr (some 5), .inr (some 10), .inr (some 15), .inr none, .inr none, .inr none]), ob1, ob2, ob3, ob4, ob5, ob6, ob7, ob8, ob9, ob10, ob11, ob12, ob13, ob14, ob15, ob16, ob17, ob18, .inr (.inr (.inr (6, gsv5))), ob20, ob21, ob22, ob23, ob24, ob25, ob26, ob27, ob28, ob29, ob30, ob31, ob32, ob33, ob34]
def ms82 : List Ob := [.inl (7, [.inr (some 1), .inr (some 4), .inr (some 5), .inr (some 10), .inr (some 15), .inr none, .inr none, .inr none]), ob1, ob2, ob3, ob4, ob5, ob6, ob7, ob8, ob9, ob10, ob11, ob12, ob13, ob14, ob15, ob16, ob17, ob18, .inr (.inr (.inr (6, gsv5))), ob20, ob21, ob22, ob23, ob24, ob25, ob26, ob27, ob28, ob29, ob30, ob31, ob32, ob33, ob34, .inl (5, [.inl false, .inl false, .inl false, .inl false, .inl false, .inl false, .inr none, .inr none])]
def ms83 : List Ob := [.inl (7, [.inr (some 1), .inr (some 4), .inr (some 5), .inr (some 10), .inr (some 15), .inr none, .inr none, .inr none]), ob1, ob2, ob3, ob4, ob5, ob6, ob7, ob8, ob9, ob10, ob11, ob12, ob13, ob14, ob15, ob16, ob17, ob18, .inr (.inr (.inr (6, gsv5))), ob20, ob21, ob22, ob23, ob24, ob25, ob26, ob27, ob28, ob29, ob30, ob31, ob32, ob33, ob34, .inl (5, [.inl false, .inl false, .inl false, .inl false, .inl false, .inl false, .inr none, .inr none])]
def ms84 : List Ob := [.inl (7, [.inr (some 1), .inr (some 4), .inr (some 5), .inr (some 10), .inr (some 15), .inr none, .inr none, .inr none]), ob1, ob2, ob3, ob4, ob5, ob6, ob7, ob8, ob9, ob10, ob11, ob12, ob13, ob14, ob15, ob16, ob17, ob18, .inr (.inr (.inr (6, gsv5))), ob20, ob21, ob22, ob23, ob24, ob25, ob26, ob27, ob28, ob29, ob30, ob31, ob32, ob33, ob34, .inl (5, [.inl false, .inl false, .inl false, .inl false, .inl false, .inl false, .inr none, .inr none]), ob36]
def ms85 : List Ob := [.inl (7, [.inr (some 1), .inr (some 4), .inr (some 5), .inr (some 10), .inr (some 15), .inr none, .inr none, .inr none]), ob1, ob2, ob3, ob4, ob5, ob6, ob7, ob8, ob9, ob10, ob11, ob12, ob13, ob14, ob15, ob16, ob17, ob18, .inr (.inr (.inr (6, gsv5))), ob20, ob21, ob22, ob23, ob24, ob25, ob26, ob27, ob28, ob29, ob30, ob31, ob32, ob33, ob34, .inl (5, [.inl false, .inl false, .inl false, .inl false, .inl false, .inl false, .inr (some 36), .inr none]), ob36]
def ms86 : List Ob := [.inl (7, [.inr (some 1), .inr (some 4), .inr (some 5), .inr (some 10), .inr (some 15), .inr none, .inr none, .inr none]), ob1, ob2, ob3, ob4, ob5, ob6, ob7, ob8, ob9, ob10, ob11, ob12, ob13, ob14, ob15, ob16, ob17, ob18, .inr (.inr (.inr (6, gsv5))), ob20, ob21, ob22, ob23, ob24, ob25, ob26, ob27, ob28, ob29, ob30, ob31, ob32, ob33, ob34, .inl (5, [.inl false, .inl false, .inl false, .inl false, .inl false, .inl false, .inr (some 36), .inr none]), ob36, ob37]
def ms87 : List Ob := [.inl (7, [.inr (some 1), .inr (some 4), .inr (some 5), .inr (some 10), .inr (some 15), .inr none, .inr none, .inr none]), ob1, ob2, ob3, ob4, ob5, ob6, ob7, ob8, ob9, ob10, ob11, ob12, ob13, ob14, ob15, ob16, ob17, ob18, .inr (.inr (.inr (6, gsv5))), ob20, ob21, ob22, ob23, ob24, ob25, ob26, ob27, ob28, ob29, ob30, ob31, ob32, ob33, ob34, ob35, ob36, ob37]
def ms88 : List Ob := [.inl (7, [.inr (some 1), .inr (some 4), .inr (some 5), .inr (some 10), .inr (some 15), .inr none, .inr none, .inr none]), ob1, ob2, ob3, ob4, ob5, ob6, ob7, ob8, ob9, ob10, ob11, ob12, ob13, ob14, ob15, ob16, ob17, ob18, .inr (.inr (.inr (6, gsv6))), ob20, ob21, ob22, ob23, ob24, ob25, ob26, ob27, ob28, ob29, ob30, ob31, ob32, ob33, ob34, ob35, ob36, ob37]
def ms89 : List Ob := [.inl (7, [.inr (some 1), .inr (some 4), .inr (some 5), .inr (some 10), .inr (some 15), .inr none, .inr none, .inr none]), ob1, ob2, ob3, ob4, ob5, ob6, ob7, ob8, ob9, ob10, ob11, ob12, ob13, ob14, ob15, ob16, ob17, ob18, ob19, ob20, ob21, ob22, ob23, ob24, ob25, ob26, ob27, ob28, ob29, ob30, ob31, ob32, ob33, ob34, ob35, ob36, ob37]
def ms90 : List Ob := [.inl (7, [.inr (some 1), .inr (some 4), .inr (some 5), .inr (some 10), .inr (some 15), .inr (some 18), .inr none, .inr none]), ob1, ob2, ob3, ob4, ob5, ob6, ob7, ob8, ob9, ob10, ob11, ob12, ob13, ob14, ob15, ob16, ob17, ob18, ob19, ob20, ob21, ob22, ob23, ob24, ob25, ob26, ob27, ob28, ob29, ob30, ob31, ob32, ob33, ob34, ob35, ob36, ob37]
def ms91 : List Ob := [.inl (7, [.inr (some 1), .inr (some 4), .inr (some 5), .inr (some 10), .inr (some 15), .inr (some 18), .inr none, .inr none]), ob1, ob2, ob3, ob4, ob5, ob6, ob7, ob8, ob9, ob10, ob11, ob12, ob13, ob14, ob15, ob16, ob17, ob18, ob19, ob20, ob21, ob22, ob23, ob24, ob25, ob26, ob27, ob28, ob29, ob30, ob31, ob32, ob33, ob34, ob35, ob36, ob37, .inl (4, [.inl false, .inr none])]
def ms92 : List Ob := [.inl (7, [.inr (some 1), .inr (some 4), .inr (some 5), .inr (some 10), .inr (some 15), .inr (some 18), .inr none, .inr none]), ob1, ob2, ob3, ob4, ob5, ob6, ob7, ob8, ob9, ob10, ob11, ob12, ob13, ob14, ob15, ob16, ob17, ob18, ob19, ob20, ob21, ob22, ob23, ob24, ob25, ob26, ob27, ob28, ob29, ob30, ob31, ob32, ob33, ob34, ob35, ob36, ob37, .inl (4, [.inl false, .inr none])]
def ms93 : List Ob := [.inl (7, [.inr (some 1), .inr (some 4), .inr (some 5), .inr (some 10), .inr (some 15), .inr (some 18), .inr none, .inr none]), ob1, ob2, ob3, ob4, ob5, ob6, ob7, ob8, ob9, ob10, ob11, ob12, ob13, ob14, ob15, ob16, ob17, ob18, ob19, ob20, ob21, ob22, ob23, ob24, ob25, ob26, ob27, ob28, ob29, ob30, ob31, ob32, ob33, ob34, ob35, ob36, ob37, .inl (4, [.inl false, .inr none]), .inl (5, [.inl false, .inl false, .inl false, .inl false, .inl false, .inl false, .inr none, .inr none])]
def ms94 : List Ob := [.inl (7, [.inr (some 1), .inr (some 4), .inr (some 5), .inr (some 10), .inr (some 15), .inr (some 18), .inr none, .inr none]), ob1, ob2, ob3, ob4, ob5, ob6, ob7, ob8, ob9, ob10, ob11, ob12, ob13, ob14, ob15, ob16, ob17, ob18, ob19, ob20, ob21, ob22, ob23, ob24, ob25, ob26, ob27, ob28, ob29, ob30, ob31, ob32, ob33, ob34, ob35, ob36, ob37, .inl (4, [.inl false, .inr none]), .inl (5, [.inl false, .inl false, .inl false, .inl false, .inl false, .inl false, .inr none, .inr none])]
def ms95 : List Ob := [.inl (7, [.inr (some 1), .inr (some 4), .inr (some 5), .inr (some 10), .inr (some 15), .inr (some 18), .inr none, .inr none]), ob1, ob2, ob3, ob4, ob5, ob6, ob7, ob8, ob9, ob10, ob11, ob12, ob13, ob14, ob15, ob16, ob17, ob18, ob19, ob20, ob21, ob22, ob23, ob24, ob25, ob26, ob27, ob28, ob29, ob30, ob31, ob32, ob33, ob34, ob35, ob36, ob37, .inl (4, [.inl false, .inr none]), .inl (5, [.inl false, .inl false, .inl false, .inl false, .inl false, .inl false, .inr none, .inr none]), ob40]
def ms96 : List Ob := [.inl (7, [.inr (some 1), .inr (some 4), .inr (some 5), .inr (some 10), .inr (some 15), .inr (some 18), .inr none, .inr none]), ob1, ob2, ob3, ob4, ob5, ob6, ob7, ob8, ob9, ob10, ob11, ob12, ob13, ob14, ob15, ob16, ob17, ob18, ob19, ob20, ob21, ob22, ob23, ob24, ob25, ob26, ob27, ob28, ob29, ob30, ob31, ob32, ob33, ob34, ob35, ob36, ob37, .inl (4, [.inl false, .inr none]), .inl (5, [.inl false, .inl false, .inl false, .inl false, .inl false, .inl false, .inr (some 40), .inr none]), ob40]
def ms97 : List Ob := [.inl (7, [.inr (some 1), .inr (some 4), .inr (some 5), .inr (some 10), .inr (some 15), .inr (some 18), .inr none, .inr none]), ob1, ob2, ob3, ob4, ob5, ob6, ob7, ob8, ob9, ob10, ob11, ob12, ob13, ob14, ob15, ob16, ob17, ob18, ob19, ob20, ob21, ob22, ob23, ob24, ob25, ob26, ob27, ob28, ob29, ob30, ob31, ob32, ob33, ob34, ob35, ob36, ob37, .inl (4, [.inl false, .inr none]), .inl (5, [.inl false, .inl false, .inl false, .inl false, .inl false, .inl false, .inr (some 40), .inr none]), ob40, ob41]
def ms98 : List Ob := [.inl (7, [.inr (some 1), .inr (some 4), .inr (some 5), .inr (some 10), .inr (some 15), .inr (some 18), .inr none, .inr none]), ob1, ob2, ob3, ob4, ob5, ob6, ob7, ob8, ob9, ob10, ob11, ob12, ob13, ob14, ob15, ob16, ob17, ob18, ob19, ob20, ob21, ob22, ob23, ob24, ob25, ob26, ob27, ob28, ob29, ob30, ob31, ob32, ob33, ob34, ob35, ob36, ob37, .inl (4, [.inl false, .inr none]), ob39, ob40, ob41]
def ms99 : List Ob := [.inl (7, [.inr (some 1), .inr (some 4), .inr (some 5), .inr (some 10), .inr (some 15), .inr (some 18), .inr none, .inr none]), ob1, ob2, ob3, ob4, ob5, ob6, ob7, ob8, ob9, ob10, ob11, ob12, ob13, ob14, ob15, ob16, ob17, ob18, ob19, ob20, ob21, ob22, ob23, ob24, ob25, ob26, ob27, ob28, ob29, ob30, ob31, ob32, ob33, ob34, ob35, ob36, ob37, ob38, ob39, ob40, ob41]
def ms100 : List Ob := [.inl (7, [.inr (some 1), .inr (some 4), .inr (some 5), .inr (some 10), .inr (some 15), .inr (some 18), .inr (some 38), .inr none]), ob1, ob2, ob3, ob4, ob5, ob6, ob7, ob8, ob9, ob10, ob11, ob12, ob13, ob14, ob15, ob16, ob17, ob18, ob19, ob20, ob21, ob22, ob23, ob24, ob25, ob26, ob27, ob28, ob29, ob30, ob31, ob32, ob33, ob34, ob35, ob36, ob37, ob38, ob39, ob40, ob41]
def ms101 : List Ob := [.inl (7, [.inr (some 1), .inr (some 4), .inr (some 5), .inr (some 10), .inr (some 15), .inr (some 18), .inr (some 38), .inr none]), ob1, ob2, ob3, ob4, ob5, ob6, ob7, ob8, ob9, ob10, ob11, ob12, ob13, ob14, ob15, ob16, ob17, ob18, ob19, ob20, ob21, ob22, ob23, ob24, ob25, ob26, ob27, ob28, ob29, ob30, ob31, ob32, ob33, ob34, ob35, ob36, ob37, ob38, ob39, ob40, ob41, .inl (4, [.inl false, .inr none])]
def ms102 : List Ob := [.inl (7, [.inr (some 1), .inr (some 4), .inr (some 5), .inr (some 10), .inr (some 15), .inr (some 18), .inr (some 38), .inr none]), ob1, ob2, ob3, ob4, ob5, ob6, ob7, ob8, ob9, ob10, ob11, ob12, ob13, ob14, ob15, ob16, ob17, ob18, ob19, ob20, ob21, ob22, ob23, ob24, ob25, ob26, ob27, ob28, ob29, ob30, ob31, ob32, ob33, ob34, ob35, ob36, ob37, ob38, ob39, ob40, ob41, .inl (4, [.inl false, .inr none])]
def ms103 : List Ob := [.inl (7, [.inr (some 1), .inr (some 4), .inr (some 5), .inr (some 10), .inr (some 15), .inr (some 18), .inr (some 38), .inr none]), ob1, ob2, ob3, ob4, ob5, ob6, ob7, ob8, ob9, ob10, ob11, ob12, ob13, ob14, ob15, ob16, ob17, ob18, ob19, ob20, ob21, ob22, ob23, ob24, ob25, ob26, ob27, ob28, ob29, ob30, ob31, ob32, ob33, ob34, ob35, ob36, ob37, ob38, ob39, ob40, ob41, .inl (4, [.inl false, .inr none]), .inl (5, [.inl false, .inl false, .inl false, .inl false, .inl false, .inl false, .inr none, .inr none])]
def ms104 : List Ob := [.inl (7, [.inr (some 1), .inr (some 4), .inr (some 5), .inr (some 10), .inr (some 15), .inr (some 18), .inr (some 38), .inr none]), ob1, ob2, ob3, ob4, ob5, ob6, ob7, ob8, ob9, ob10, ob11, ob12, ob13, ob14, ob15, ob16, ob17, ob18, ob19, ob20, ob21, ob22, ob23, ob24, ob25, ob26, ob27, ob28, ob29, ob30, ob31, ob32, ob33, ob34, ob35, ob36, ob37, ob38, ob39, ob40, ob41, .inl (4, [.inl false, .inr none]), .inl (5, [.inl false, .inl false, .inl false, .inl false, .inl false, .inl false, .inr none, .inr none])]
def ms105 : List Ob := [.inl (7, [.inr (some 1), .inr (some 4), .inr (some 5), .inr (some 10), .inr (some 15), .inr (some 18), .inr (some 38), .inr none]), ob1, ob2, ob3, ob4, ob5, ob6, ob7, ob8, ob9, ob10, ob11, ob12, ob13, ob14, ob15, ob16, ob17, ob18, ob19, ob20, ob21, ob22, ob23, ob24, ob25, ob26, ob27, ob28, ob29, ob30, ob31, ob32, ob33, ob34, ob35, ob36, ob37, ob38, ob39, ob40, ob41, .inl (4, [.inl false, .inr none]), .inl (5, [.inl false, .inl false, .inl false, .inl false, .inl false, .inl false, .inr none, .inr none]), ob44]
def ms106 : List Ob := [.inl (7, [.inr (some 1), .inr (some 4), .inr (some 5), .inr (some 10), .inr (some 15), .inr (some 18), .inr (some 38), .inr none]), ob1, ob2, ob3, ob4, ob5, ob6, ob7, ob8, ob9, ob10, ob11, ob12, ob13, ob14, ob15, ob16, ob17, ob18, ob19, ob20, ob21, ob22, ob23, ob24, ob25, ob26, ob27, ob28, ob29, ob30, ob31, ob32, ob33, ob34, ob35, ob36, ob37, ob38, ob39, ob40, ob41, .inl (4, [.inl false, .inr none]), .inl (5, [.inl false, .inl false, .inl false, .inl false, .inl false, .inl false, .inr (some 44), .inr none]), ob44]
def ms107 : List Ob := [.inl (7, [.inr (some 1), .inr (some 4), .inr (some 5), .inr (some 10), .inr (some 15), .inr (some 18), .inr (some 38), .inr none]), ob1, ob2, ob3, ob4, ob5, ob6, ob7, ob8, ob9, ob10, ob11, ob12, ob13, ob14, ob15, ob16, ob17, ob18, ob19, ob20, ob21, ob22, ob23, ob24, ob25, ob26, ob27, ob28, ob29, ob30, ob31, ob32, ob33, ob34, ob35, ob36, ob37, ob38, ob39, ob40, ob41, .inl (4, [.inl false, .inr none]), .inl (5, [.inl false, .inl false, .inl false, .inl false, .inl false, .inl false, .inr (some 44), .inr none]), ob44, ob45]
def ms108 : List Ob := [.inl (7, [.inr (some 1), .inr (some 4), .inr (some 5), .inr (some 10), .inr (some 15), .inr (some 18), .inr (some 38), .inr none]), ob1, ob2, ob3, ob4, ob5, ob6, ob7, ob8, ob9, ob10, ob11, ob12, ob13, ob14, ob15, ob16, ob17, ob18, ob19, ob20, ob21, ob22, ob23, ob24, ob25, ob26, ob27, ob28, ob29, ob30, ob31, ob32, ob33, ob34, ob35, ob36, ob37, ob38, ob39, ob40, ob41, .inl (4, [.inl false, .inr none]), ob43, ob44, ob45]
def ms109 : List Ob := [.inl (7, [.inr (some 1), .inr (some 4), .inr (some 5), .inr (some 10), .inr (some 15), .inr (some 18), .inr (some 38), .inr none]), ob1, ob2, ob3, ob4, ob5, ob6, ob7, ob8, ob9, ob10, ob11, ob12, ob13, ob14, ob15, ob16, ob17, ob18, ob19, ob20, ob21, ob22, ob23, ob24, ob25, ob26, ob27, ob28, ob29, ob30, ob31, ob32, ob33, ob34, ob35, ob36, ob37, ob38, ob39, ob40, ob41, ob42, ob43, ob44, ob45]
def ms110 : List Ob := [ob0, ob1, ob2, ob3, ob4, ob5, ob6, ob7, ob8, ob9, ob10, ob11, ob12, ob13, ob14, ob15, ob16, ob17, ob18, ob19, ob20, ob21, ob22, ob23, ob24, ob25, ob26, ob27, ob28, ob29, ob30, ob31, ob32, ob33, ob34, ob35, ob36, ob37, ob38, ob39, ob40, ob41, ob42, ob43, ob44, ob45]
set_option maxHeartbeats 1000000 in
set_option maxRecDepth 100000 in
theorem tX7_setInN (G : GT) {sh : List Ob} (σ : Sg) (a : Nat) (i w : Int) (N : Nat) (hs : sh[a]? = some (.inr (.inl N))) (hi : 0 ≤ i ∧ i < (N : Int) ∧ (N : Int) ≤ 2147483647) : Ct G mX7_setIn 1 0 0 true sh sh [Rf G a, I i, I w] σ (fun rv sv => none = rv ∧ up σ a i w = sv) := by
  obtain ⟨P, hP⟩ : ∃ P : Option Value → Sg → Prop, P = (fun rv sv => none = rv ∧ up σ a i w = sv) := ⟨_, rfl⟩
  rw [← hP]
  refine ct_of (lv := [(0, Rf G a), (1, I i), (2, I w)]) (by decide +kernel) (Nat.le_of_ble_eq_true rfl) rfl ?_
  refine r_aload_n dX7_setIn_0 rfl rfl ?_
  refine r_ifnull dX7_setIn_1 ?_
  refine r_iload_n dX7_setIn_4 rfl rfl ?_
  refine r_if_lt (tgt := 18) dX7_setIn_5 (by decide) (by omega) (fun hb1 => ?_) (fun hb1 => ?_)
  · skip
    exact absurd hb1 (by omega)
  · skip
    refine r_iload_n dX7_setIn_8 rfl rfl ?_
    refine r_aload_n dX7_setIn_9 rfl rfl ?_
    refine r_alen dX7_setIn_10 hs ?_
    refine r_icmp_ge (tgt := 18) dX7_setIn_11 (by decide) (by omega) (fun hb2 => ?_) (fun hb2 => ?_)
    · skip
      exact absurd hb2 (by omega)
    · skip
      refine r_aload_n dX7_setIn_14 rfl rfl ?_
      refine r_iload_n dX7_setIn_15 rfl rfl ?_
      refine r_iload_n dX7_setIn_16 rfl rfl ?_
      refine r_iast dX7_setIn_17 hs (by omega) ?_
      exact r_vret dX7_setIn_18 rfl (by rw [hP]; exact ⟨rfl, rfl⟩)
set_option maxHeartbeats 1000000 in
set_option maxRecDepth 100000 in
theorem tX5_init_1 (G : GT) (σ : Sg) (hz : ∀ q, 1 ≤ q → σ q = fun _ => 0) : Ct G mX5_init 2 2 110 true ms2 ms6 [Rf G 1] σ (fun rv sv => none = rv ∧ InS σ sv 1) := by
  obtain ⟨P, hP⟩ : ∃ P : Option Value → Sg → Prop, P = (fun rv sv => none = rv ∧ InS σ sv 1) := ⟨_, rfl⟩
  rw [← hP]
  refine ct_of (lv := [(0, Rf G 1)]) (by decide +kernel) (Nat.le_of_ble_eq_true rfl) rfl ?_
  refine r_aload_n dX5_init_0 rfl rfl ?_
  refine r_objInit dX5_init_1 q29 (Nat.le_of_ble_eq_true rfl) (Nat.le_of_ble_eq_true rfl) ?_
  refine r_aload_n dX5_init_4 rfl rfl ?_
  refine r_iconst dX5_init_5 ?_
  refine r_putI (z := 0) tyX5 dX5_init_6 rfl rfl (ci := 5) (j := 0) rfl (Nat.le_of_ble_eq_true rfl) rfl tyX5_ok nmX5 ixX5 q33 rfl rfl rfl ?_
  refine r_aload_n dX5_init_9 rfl rfl ?_
  refine r_iconst dX5_init_10 ?_
  refine r_putI (z := 1) tyX5 dX5_init_11 rfl rfl (ci := 5) (j := 1) rfl (Nat.le_of_ble_eq_true rfl) rfl tyX5_ok nmX5 ixX5 q37 rfl rfl rfl ?_
  refine r_aload_n dX5_init_14 rfl rfl ?_
  refine r_iconst dX5_init_15 ?_
  refine r_putI (z := 2) tyX5 dX5_init_16 rfl rfl (ci := 5) (j := 2) rfl (Nat.le_of_ble_eq_true rfl) rfl tyX5_ok nmX5 ixX5 q41 rfl rfl rfl ?_
  refine r_aload_n dX5_init_19 rfl rfl ?_
  refine r_iconst dX5_init_20 ?_
  refine r_putI (z := 3) tyX5 dX5_init_21 rfl rfl (ci := 5) (j := 3) rfl (Nat.le_of_ble_eq_true rfl) rfl tyX5_ok nmX5 ixX5 q44 rfl rfl rfl ?_
  refine r_aload_n dX5_init_24 rfl rfl ?_
  refine r_iconst dX5_init_25 ?_
  refine r_putI (z := 4) tyX5 dX5_init_26 rfl rfl (ci := 5) (j := 4) rfl (Nat.le_of_ble_eq_true rfl) rfl tyX5_ok nmX5 ixX5 q46 rfl rfl rfl ?_
  refine r_aload_n dX5_init_29 rfl rfl ?_
  refine r_iconst dX5_init_30 ?_
  refine r_putI (z := 5) tyX5 dX5_init_31 rfl rfl (ci := 5) (j := 5) rfl (Nat.le_of_ble_eq_true rfl) rfl tyX5_ok nmX5 ixX5 q48 rfl rfl rfl ?_
  refine r_aload_n dX5_init_34 rfl rfl ?_
  refine r_bipush dX5_init_35 rfl ?_
  refine r_newi (N := 100) (sh2 := ms3) dX5_init_37 rfl (Nat.le_of_ble_eq_true rfl) (a := 2) rfl rfl ((up_ne (by decide)).trans ((up_ne (by decide)).trans ((up_ne (by decide)).trans ((up_ne (by decide)).trans ((up_ne (by decide)).trans ((up_ne (by decide)).trans (hz 2 (by decide)))))))) (Nat.le_of_ble_eq_true rfl) (Nat.le_of_ble_eq_true rfl) ?_
  refine r_putRF tyX5 dX5_init_39 rfl rfl (ci := 5) (j := 6) rfl (Nat.le_of_ble_eq_true rfl) tyX5_ok nmX5 ixX5 q50 rfl rfl rfl rfl rfl rfl rfl ?_
  refine r_shE (sh2 := ms4) rfl ?_
  refine r_aload_n dX5_init_42 rfl rfl ?_
  refine r_bipush dX5_init_43 rfl ?_
  refine r_newi (N := 10) (sh2 := ms5) dX5_init_45 rfl (Nat.le_of_ble_eq_true rfl) (a := 3) rfl rfl ((up_ne (by decide)).trans ((up_ne (by decide)).trans ((up_ne (by decide)).trans ((up_ne (by decide)).trans ((up_ne (by decide)).trans ((up_ne (by decide)).trans ((up_ne (by decide)).trans (hz 3 (by decide))))))))) (Nat.le_of_ble_eq_true rfl) (Nat.le_of_ble_eq_true rfl) ?_
  refine r_putRF tyX5 dX5_init_47 rfl rfl (ci := 5) (j := 7) rfl (Nat.le_of_ble_eq_true rfl) tyX5_ok nmX5 ixX5 q51 rfl rfl rfl rfl rfl rfl rfl ?_
  refine r_shE (sh2 := ms6) rfl ?_
  refine r_aload_n dX5_init_50 rfl rfl ?_
  refine r_getR (b := 3) dX5_init_51 rfl rfl (ci := 5) (j := 7) rfl (Nat.le_of_ble_eq_true rfl) ixX5 q51 rfl ?_
  refine r_iconst dX5_init_54 ?_
  refine r_iconst dX5_init_55 ?_
  refine r_callSN (tX7_setInN G (up (up (up (up (up (up (up (up σ 1 0 4) 1 1 4) 1 2 1) 1 3 0) 1 4 0) 1 5 0) 1 6 0) 1 7 0) 3 0 1 10 rfl (by omega)) dX5_init_56 svX7_setIn nw0 rfl ⟨Nat.le_of_ble_eq_true rfl, Nat.le_of_ble_eq_true rfl⟩ (Nat.le_of_ble_eq_true rfl) ⟨Nat.le_of_ble_eq_true rfl, Nat.le_of_ble_eq_true rfl⟩ ?_
  rintro _ _ ⟨rfl, rfl⟩
  exact r_vret dX5_init_59 rfl (by rw [hP]; exact ⟨rfl, fun q h h2 => by rw [up_ne (by omega), up_ne (by omega), up_ne (by omega), up_ne (by omega), up_ne (by omega), up_ne (by omega), up_ne (by omega), up_ne (by omega), up_ne (by omega)], by simp [up, hz 1 (by decide)], by simp [up], fun j hj => by simp [up, hj, hz 3 (by decide)]⟩)
set_option maxHeartbeats 1000000 in
set_option maxRecDepth 100000 in
theorem tX3_init_4 (G : GT) (σ : Sg) (hz : ∀ q, 4 ≤ q → σ q = fun _ => 0) : Ct G mX3_init 1 0 0 true ms9 ms10 [Rf G 4, Rf G 1] σ (fun rv sv => none = rv ∧ InX σ sv 4) := by
  obtain ⟨P, hP⟩ : ∃ P : Option Value → Sg → Prop, P = (fun rv sv => none = rv ∧ InX σ sv 4) := ⟨_, rfl⟩
  rw [← hP]
  refine ct_of (lv := [(0, Rf G 4), (1, Rf G 1)]) (by decide +kernel) (Nat.le_of_ble_eq_true rfl) rfl ?_
  refine r_aload_n dX3_init_0 rfl rfl ?_
  refine r_objInit dX3_init_1 q58 (Nat.le_of_ble_eq_true rfl) (Nat.le_of_ble_eq_true rfl) ?_
  refine r_aload_n dX3_init_4 rfl rfl ?_
  refine r_iconst dX3_init_5 ?_
  refine r_putI (z := 0) tyX3 dX3_init_6 rfl rfl (ci := 3) (j := 0) rfl (Nat.le_of_ble_eq_true rfl) rfl tyX3_ok nmX3 ixX3 q59 rfl rfl rfl ?_
  refine r_aload_n dX3_init_9 rfl rfl ?_
  refine r_iconst dX3_init_10 ?_
  refine r_putI (z := 1) tyX3 dX3_init_11 rfl rfl (ci := 3) (j := 1) rfl (Nat.le_of_ble_eq_true rfl) rfl tyX3_ok nmX3 ixX3 q61 rfl rfl rfl ?_
  refine r_aload_n dX3_init_14 rfl rfl ?_
  refine r_iconst dX3_init_15 ?_
  refine r_putI (z := 2) tyX3 dX3_init_16 rfl rfl (ci := 3) (j := 2) rfl (Nat.le_of_ble_eq_true rfl) rfl tyX3_ok nmX3 ixX3 q63 rfl rfl rfl ?_
  refine r_aload_n dX3_init_19 rfl rfl ?_
  refine r_iconst dX3_init_20 ?_
  refine r_putI (z := 3) tyX3 dX3_init_21 rfl rfl (ci := 3) (j := 3) rfl (Nat.le_of_ble_eq_true rfl) rfl tyX3_ok nmX3 ixX3 q65 rfl rfl rfl ?_
  refine r_aload_n dX3_init_24 rfl rfl ?_
  refine r_aload_n dX3_init_25 rfl rfl ?_
  refine r_putRF tyX3 dX3_init_26 rfl rfl (ci := 3) (j := 4) rfl (Nat.le_of_ble_eq_true rfl) tyX3_ok nmX3 ixX3 q67 rfl rfl rfl rfl rfl rfl rfl ?_
  refine r_shE (sh2 := ms10) rfl ?_
  exact r_vret dX3_init_29 rfl (by rw [hP]; exact ⟨rfl, fun q h => by rw [up_ne (by omega), up_ne (by omega), up_ne (by omega), up_ne (by omega), up_ne (by omega)]⟩)
set_option maxHeartbeats 1000000 in
set_option maxRecDepth 100000 in
theorem tX1_init_5 (G : GT) (σ : Sg) (hz : ∀ q, 5 ≤ q → σ q = fun _ => 0) : Ct G mX1_init 1 4 88 true ms13 ms22 [Rf G 5, Rf G 1] σ (fun rv sv => none = rv ∧ InX σ sv 5) := by
  obtain ⟨P, hP⟩ : ∃ P : Option Value → Sg → Prop, P = (fun rv sv => none = rv ∧ InX σ sv 5) := ⟨_, rfl⟩
  rw [← hP]
  refine ct_of (lv := [(0, Rf G 5), (1, Rf G 1)]) (by decide +kernel) (Nat.le_of_ble_eq_true rfl) rfl ?_
  refine r_aload_n dX1_init_0 rfl rfl ?_
  refine r_objInit dX1_init_1 q73 (Nat.le_of_ble_eq_true rfl) (Nat.le_of_ble_eq_true rfl) ?_
  refine r_aload_n dX1_init_4 rfl rfl ?_
  refine r_bipush dX1_init_5 rfl ?_
  refine r_newi (N := 30) (sh2 := ms14) dX1_init_7 rfl (Nat.le_of_ble_eq_true rfl) (a := 6) rfl rfl (hz 6 (by decide)) (Nat.le_of_ble_eq_true rfl) (Nat.le_of_ble_eq_true rfl) ?_
  refine r_putRF tyX1 dX1_init_9 rfl rfl (ci := 1) (j := 1) rfl (Nat.le_of_ble_eq_true rfl) tyX1_ok nmX1 ixX1 q75 rfl rfl rfl rfl rfl rfl rfl ?_
  refine r_shE (sh2 := ms15) rfl ?_
  refine r_aload_n dX1_init_12 rfl rfl ?_
  refine r_iconst dX1_init_13 ?_
  refine r_newi (N := 3) (sh2 := ms16) dX1_init_14 rfl (Nat.le_of_ble_eq_true rfl) (a := 7) rfl rfl ((up_ne (by decide)).trans (hz 7 (by decide))) (Nat.le_of_ble_eq_true rfl) (Nat.le_of_ble_eq_true rfl) ?_
  refine r_putRF tyX1 dX1_init_16 rfl rfl (ci := 1) (j := 2) rfl (Nat.le_of_ble_eq_true rfl) tyX1_ok nmX1 ixX1 q76 rfl rfl rfl rfl rfl rfl rfl ?_
  refine r_shE (sh2 := ms17) rfl ?_
  refine r_aload_n dX1_init_19 rfl rfl ?_
  refine r_bipush dX1_init_20 rfl ?_
  refine r_newi (N := 50) (sh2 := ms18) dX1_init_22 rfl (Nat.le_of_ble_eq_true rfl) (a := 8) rfl rfl ((up_ne (by decide)).trans ((up_ne (by decide)).trans (hz 8 (by decide)))) (Nat.le_of_ble_eq_true rfl) (Nat.le_of_ble_eq_true rfl) ?_
  refine r_putRF tyX1 dX1_init_24 rfl rfl (ci := 1) (j := 3) rfl (Nat.le_of_ble_eq_true rfl) tyX1_ok nmX1 ixX1 q77 rfl rfl rfl rfl rfl rfl rfl ?_
  refine r_shE (sh2 := ms19) rfl ?_
  refine r_aload_n dX1_init_27 rfl rfl ?_
  refine r_iconst dX1_init_28 ?_
  refine r_newi (N := 5) (sh2 := ms20) dX1_init_29 rfl (Nat.le_of_ble_eq_true rfl) (a := 9) rfl rfl ((up_ne (by decide)).trans ((up_ne (by decide)).trans ((up_ne (by decide)).trans (hz 9 (by decide))))) (Nat.le_of_ble_eq_true rfl) (Nat.le_of_ble_eq_true rfl) ?_
  refine r_putRF tyX1 dX1_init_31 rfl rfl (ci := 1) (j := 4) rfl (Nat.le_of_ble_eq_true rfl) tyX1_ok nmX1 ixX1 q78 rfl rfl rfl rfl rfl rfl rfl ?_
  refine r_shE (sh2 := ms21) rfl ?_
  refine r_aload_n dX1_init_34 rfl rfl ?_
  refine r_iconst dX1_init_35 ?_
  refine r_putI (z := 5) tyX1 dX1_init_36 rfl rfl (ci := 1) (j := 5) rfl (Nat.le_of_ble_eq_true rfl) rfl tyX1_ok nmX1 ixX1 q79 rfl rfl rfl ?_
  refine r_aload_n dX1_init_39 rfl rfl ?_
  refine r_iconst dX1_init_40 ?_
  refine r_putI (z := 6) tyX1 dX1_init_41 rfl rfl (ci := 1) (j := 6) rfl (Nat.le_of_ble_eq_true rfl) rfl tyX1_ok nmX1 ixX1 q80 rfl rfl rfl ?_
  refine r_aload_n dX1_init_44 rfl rfl ?_
  refine r_aload_n dX1_init_45 rfl rfl ?_
  refine r_putRF tyX1 dX1_init_46 rfl rfl (ci := 1) (j := 0) rfl (Nat.le_of_ble_eq_true rfl) tyX1_ok nmX1 ixX1 q74 rfl rfl rfl rfl rfl rfl rfl ?_
  refine r_shE (sh2 := ms22) rfl ?_
  exact r_vret dX1_init_49 rfl (by rw [hP]; exact ⟨rfl, fun q h => by rw [up_ne (by omega), up_ne (by omega), up_ne (by omega), up_ne (by omega), up_ne (by omega), up_ne (by omega), up_ne (by omega)]⟩)
set_option maxHeartbeats 1000000 in
set_option maxRecDepth 100000 in
theorem tX0_init_10 (G : GT) (σ : Sg) (hz : ∀ q, 10 ≤ q → σ q = fun _ => 0) : Ct G mX0_init 1 4 264 true ms25 ms34 [Rf G 10, Rf G 1] σ (fun rv sv => none = rv ∧ InX σ sv 10) := by
  obtain ⟨P, hP⟩ : ∃ P : Option Value → Sg → Prop, P = (fun rv sv => none = rv ∧ InX σ sv 10) := ⟨_, rfl⟩
  rw [← hP]
  refine ct_of (lv := [(0, Rf G 10), (1, Rf G 1)]) (by decide +kernel) (Nat.le_of_ble_eq_true rfl) rfl ?_
  refine r_aload_n dX0_init_0 rfl rfl ?_
  refine r_objInit dX0_init_1 q86 (Nat.le_of_ble_eq_true rfl) (Nat.le_of_ble_eq_true rfl) ?_
  refine r_aload_n dX0_init_4 rfl rfl ?_
  refine r_bipush dX0_init_5 rfl ?_
  refine r_newi (N := 121) (sh2 := ms26) dX0_init_7 rfl (Nat.le_of_ble_eq_true rfl) (a := 11) rfl rfl (hz 11 (by decide)) (Nat.le_of_ble_eq_true rfl) (Nat.le_of_ble_eq_true rfl) ?_
  refine r_putRF tyX0 dX0_init_9 rfl rfl (ci := 0) (j := 1) rfl (Nat.le_of_ble_eq_true rfl) tyX0_ok nmX0 ixX0 q88 rfl rfl rfl rfl rfl rfl rfl ?_
  refine r_shE (sh2 := ms27) rfl ?_
  refine r_aload_n dX0_init_12 rfl rfl ?_
  refine r_bipush dX0_init_13 rfl ?_
  refine r_newi (N := 121) (sh2 := ms28) dX0_init_15 rfl (Nat.le_of_ble_eq_true rfl) (a := 12) rfl rfl ((up_ne (by decide)).trans (hz 12 (by decide))) (Nat.le_of_ble_eq_true rfl) (Nat.le_of_ble_eq_true rfl) ?_
  refine r_putRF tyX0 dX0_init_17 rfl rfl (ci := 0) (j := 2) rfl (Nat.le_of_ble_eq_true rfl) tyX0_ok nmX0 ixX0 q89 rfl rfl rfl rfl rfl rfl rfl ?_
  refine r_shE (sh2 := ms29) rfl ?_
  refine r_aload_n dX0_init_20 rfl rfl ?_
  refine r_bipush dX0_init_21 rfl ?_
  refine r_newi (N := 11) (sh2 := ms30) dX0_init_23 rfl (Nat.le_of_ble_eq_true rfl) (a := 13) rfl rfl ((up_ne (by decide)).trans ((up_ne (by decide)).trans (hz 13 (by decide)))) (Nat.le_of_ble_eq_true rfl) (Nat.le_of_ble_eq_true rfl) ?_
  refine r_putRF tyX0 dX0_init_25 rfl rfl (ci := 0) (j := 3) rfl (Nat.le_of_ble_eq_true rfl) tyX0_ok nmX0 ixX0 q90 rfl rfl rfl rfl rfl rfl rfl ?_
  refine r_shE (sh2 := ms31) rfl ?_
  refine r_aload_n dX0_init_28 rfl rfl ?_
  refine r_bipush dX0_init_29 rfl ?_
  refine r_newi (N := 11) (sh2 := ms32) dX0_init_31 rfl (Nat.le_of_ble_eq_true rfl) (a := 14) rfl rfl ((up_ne (by decide)).trans ((up_ne (by decide)).trans ((up_ne (by decide)).trans (hz 14 (by decide))))) (Nat.le_of_ble_eq_true rfl) (Nat.le_of_ble_eq_true rfl) ?_
  refine r_putRF tyX0 dX0_init_33 rfl rfl (ci := 0) (j := 4) rfl (Nat.le_of_ble_eq_true rfl) tyX0_ok nmX0 ixX0 q91 rfl rfl rfl rfl rfl rfl rfl ?_
  refine r_shE (sh2 := ms33) rfl ?_
  refine r_aload_n dX0_init_36 rfl rfl ?_
  refine r_aload_n dX0_init_37 rfl rfl ?_
  refine r_putRF tyX0 dX0_init_38 rfl rfl (ci := 0) (j := 0) rfl (Nat.le_of_ble_eq_true rfl) tyX0_ok nmX0 ixX0 q87 rfl rfl rfl rfl rfl rfl rfl ?_
  refine r_shE (sh2 := ms34) rfl ?_
  exact r_vret dX0_init_41 rfl (by rw [hP]; exact ⟨rfl, fun q h => by rw [up_ne (by omega), up_ne (by omega), up_ne (by omega), up_ne (by omega), up_ne (by omega)]⟩)
set_option maxHeartbeats 1000000 in
set_option maxRecDepth 100000 in
theorem tX6_init_15 (G : GT) (σ : Sg) (hz : ∀ q, 15 ≤ q → σ q = fun _ => 0) : Ct G mX6_init 1 2 160 true ms37 ms41 [Rf G 15] σ (fun rv sv => none = rv ∧ InT σ sv) := by
  obtain ⟨P, hP⟩ : ∃ P : Option Value → Sg → Prop, P = (fun rv sv => none = rv ∧ InT σ sv) := ⟨_, rfl⟩
  rw [← hP]
  refine ct_of (lv := [(0, Rf G 15)]) (by decide +kernel) (Nat.le_of_ble_eq_true rfl) rfl ?_
  refine r_aload_n dX6_init_0 rfl rfl ?_
  refine r_objInit dX6_init_1 q97 (Nat.le_of_ble_eq_true rfl) (Nat.le_of_ble_eq_true rfl) ?_
  refine r_aload_n dX6_init_4 rfl rfl ?_
  refine r_iconst dX6_init_5 ?_
  refine r_putI (z := 0) tyX6 dX6_init_6 rfl rfl (ci := 6) (j := 0) rfl (Nat.le_of_ble_eq_true rfl) rfl tyX6_ok nmX6 ixX6 q98 rfl rfl rfl ?_
  refine r_aload_n dX6_init_9 rfl rfl ?_
  refine r_bipush dX6_init_10 rfl ?_
  refine r_newi (N := 60) (sh2 := ms38) dX6_init_12 rfl (Nat.le_of_ble_eq_true rfl) (a := 16) rfl rfl ((up_ne (by decide)).trans (hz 16 (by decide))) (Nat.le_of_ble_eq_true rfl) (Nat.le_of_ble_eq_true rfl) ?_
  refine r_putRF tyX6 dX6_init_14 rfl rfl (ci := 6) (j := 1) rfl (Nat.le_of_ble_eq_true rfl) tyX6_ok nmX6 ixX6 q100 rfl rfl rfl rfl rfl rfl rfl ?_
  refine r_shE (sh2 := ms39) rfl ?_
  refine r_aload_n dX6_init_17 rfl rfl ?_
  refine r_bipush dX6_init_18 rfl ?_
  refine r_newi (N := 100) (sh2 := ms40) dX6_init_20 rfl (Nat.le_of_ble_eq_true rfl) (a := 17) rfl rfl ((up_ne (by decide)).trans ((up_ne (by decide)).trans (hz 17 (by decide)))) (Nat.le_of_ble_eq_true rfl) (Nat.le_of_ble_eq_true rfl) ?_
  refine r_putRF tyX6 dX6_init_22 rfl rfl (ci := 6) (j := 2) rfl (Nat.le_of_ble_eq_true rfl) tyX6_ok nmX6 ixX6 q101 rfl rfl rfl rfl rfl rfl rfl ?_
  refine r_shE (sh2 := ms41) rfl ?_
  refine r_aload_n dX6_init_25 rfl rfl ?_
  refine r_iconst dX6_init_26 ?_
  refine r_putI (z := 3) tyX6 dX6_init_27 rfl rfl (ci := 6) (j := 3) rfl (Nat.le_of_ble_eq_true rfl) rfl tyX6_ok nmX6 ixX6 q102 rfl rfl rfl ?_
  refine r_aload_n dX6_init_30 rfl rfl ?_
  refine r_iconst dX6_init_31 ?_
  refine r_putI (z := 4) tyX6 dX6_init_32 rfl rfl (ci := 6) (j := 4) rfl (Nat.le_of_ble_eq_true rfl) rfl tyX6_ok nmX6 ixX6 q103 rfl rfl rfl ?_
  refine r_aload_n dX6_init_35 rfl rfl ?_
  refine r_iconst dX6_init_36 ?_
  refine r_putI (z := 5) tyX6 dX6_init_37 rfl rfl (ci := 6) (j := 5) rfl (Nat.le_of_ble_eq_true rfl) rfl tyX6_ok nmX6 ixX6 q104 rfl rfl rfl ?_
  refine r_aload_n dX6_init_40 rfl rfl ?_
  refine r_iconst dX6_init_41 ?_
  refine r_putI (z := 6) tyX6 dX6_init_42 rfl rfl (ci := 6) (j := 6) rfl (Nat.le_of_ble_eq_true rfl) rfl tyX6_ok nmX6 ixX6 q105 rfl rfl rfl ?_
  refine r_aload_n dX6_init_45 rfl rfl ?_
  refine r_iconst dX6_init_46 ?_
  refine r_putI (z := 7) tyX6 dX6_init_47 rfl rfl (ci := 6) (j := 7) rfl (Nat.le_of_ble_eq_true rfl) rfl tyX6_ok nmX6 ixX6 q106 rfl rfl rfl ?_
  exact r_vret dX6_init_50 rfl (by rw [hP]; exact ⟨rfl, fun q h => by rw [up_ne (by omega), up_ne (by omega), up_ne (by omega), up_ne (by omega), up_ne (by omega), up_ne (by omega), up_ne (by omega), up_ne (by omega)], by simp [up, hz 15 (by decide)]⟩)
set_option maxHeartbeats 1000000 in
set_option maxRecDepth 100000 in
theorem tX5_init_20 (G : GT) (σ : Sg) (hz : ∀ q, 20 ≤ q → σ q = fun _ => 0) : Ct G mX5_init 2 2 110 true ms48 ms52 [Rf G 20] σ (fun rv sv => none = rv ∧ InS σ sv 20) := by
  obtain ⟨P, hP⟩ : ∃ P : Option Value → Sg → Prop, P = (fun rv sv => none = rv ∧ InS σ sv 20) := ⟨_, rfl⟩
  rw [← hP]
  refine ct_of (lv := [(0, Rf G 20)]) (by decide +kernel) (Nat.le_of_ble_eq_true rfl) rfl ?_
  refine r_aload_n dX5_init_0 rfl rfl ?_
  refine r_objInit dX5_init_1 q29 (Nat.le_of_ble_eq_true rfl) (Nat.le_of_ble_eq_true rfl) ?_
  refine r_aload_n dX5_init_4 rfl rfl ?_
  refine r_iconst dX5_init_5 ?_
  refine r_putI (z := 0) tyX5 dX5_init_6 rfl rfl (ci := 5) (j := 0) rfl (Nat.le_of_ble_eq_true rfl) rfl tyX5_ok nmX5 ixX5 q33 rfl rfl rfl ?_
  refine r_aload_n dX5_init_9 rfl rfl ?_
  refine r_iconst dX5_init_10 ?_
  refine r_putI (z := 1) tyX5 dX5_init_11 rfl rfl (ci := 5) (j := 1) rfl (Nat.le_of_ble_eq_true rfl) rfl tyX5_ok nmX5 ixX5 q37 rfl rfl rfl ?_
  refine r_aload_n dX5_init_14 rfl rfl ?_
  refine r_iconst dX5_init_15 ?_
  refine r_putI (z := 2) tyX5 dX5_init_16 rfl rfl (ci := 5) (j := 2) rfl (Nat.le_of_ble_eq_true rfl) rfl tyX5_ok nmX5 ixX5 q41 rfl rfl rfl ?_
  refine r_aload_n dX5_init_19 rfl rfl ?_
  refine r_iconst dX5_init_20 ?_
  refine r_putI (z := 3) tyX5 dX5_init_21 rfl rfl (ci := 5) (j := 3) rfl (Nat.le_of_ble_eq_true rfl) rfl tyX5_ok nmX5 ixX5 q44 rfl rfl rfl ?_
  refine r_aload_n dX5_init_24 rfl rfl ?_
  refine r_iconst dX5_init_25 ?_
  refine r_putI (z := 4) tyX5 dX5_init_26 rfl rfl (ci := 5) (j := 4) rfl (Nat.le_of_ble_eq_true rfl) rfl tyX5_ok nmX5 ixX5 q46 rfl rfl rfl ?_
  refine r_aload_n dX5_init_29 rfl rfl ?_
  refine r_iconst dX5_init_30 ?_
  refine r_putI (z := 5) tyX5 dX5_init_31 rfl rfl (ci := 5) (j := 5) rfl (Nat.le_of_ble_eq_true rfl) rfl tyX5_ok nmX5 ixX5 q48 rfl rfl rfl ?_
  refine r_aload_n dX5_init_34 rfl rfl ?_
  refine r_bipush dX5_init_35 rfl ?_
  refine r_newi (N := 100) (sh2 := ms49) dX5_init_37 rfl (Nat.le_of_ble_eq_true rfl) (a := 21) rfl rfl ((up_ne (by decide)).trans ((up_ne (by decide)).trans ((up_ne (by decide)).trans ((up_ne (by decide)).trans ((up_ne (by decide)).trans ((up_ne (by decide)).trans (hz 21 (by decide)))))))) (Nat.le_of_ble_eq_true rfl) (Nat.le_of_ble_eq_true rfl) ?_
  refine r_putRF tyX5 dX5_init_39 rfl rfl (ci := 5) (j := 6) rfl (Nat.le_of_ble_eq_true rfl) tyX5_ok nmX5 ixX5 q50 rfl rfl rfl rfl rfl rfl rfl ?_
  refine r_shE (sh2 := ms50) rfl ?_
  refine r_aload_n dX5_init_42 rfl rfl ?_
  refine r_bipush dX5_init_43 rfl ?_
  refine r_newi (N := 10) (sh2 := ms51) dX5_init_45 rfl (Nat.le_of_ble_eq_true rfl) (a := 22) rfl rfl ((up_ne (by decide)).trans ((up_ne (by decide)).trans ((up_ne (by decide)).trans ((up_ne (by decide)).trans ((up_ne (by decide)).trans ((up_ne (by decide)).trans ((up_ne (by decide)).trans (hz 22 (by decide))))))))) (Nat.le_of_ble_eq_true rfl) (Nat.le_of_ble_eq_true rfl) ?_
  refine r_putRF tyX5 dX5_init_47 rfl rfl (ci := 5) (j := 7) rfl (Nat.le_of_ble_eq_true rfl) tyX5_ok nmX5 ixX5 q51 rfl rfl rfl rfl rfl rfl rfl ?_
  refine r_shE (sh2 := ms52) rfl ?_
  refine r_aload_n dX5_init_50 rfl rfl ?_
  refine r_getR (b := 22) dX5_init_51 rfl rfl (ci := 5) (j := 7) rfl (Nat.le_of_ble_eq_true rfl) ixX5 q51 rfl ?_
  refine r_iconst dX5_init_54 ?_
  refine r_iconst dX5_init_55 ?_
  refine r_callSN (tX7_setInN G (up (up (up (up (up (up (up (up σ 20 0 4) 20 1 4) 20 2 1) 20 3 0) 20 4 0) 20 5 0) 20 6 0) 20 7 0) 22 0 1 10 rfl (by omega)) dX5_init_56 svX7_setIn nw0 rfl ⟨Nat.le_of_ble_eq_true rfl, Nat.le_of_ble_eq_true rfl⟩ (Nat.le_of_ble_eq_true rfl) ⟨Nat.le_of_ble_eq_true rfl, Nat.le_of_ble_eq_true rfl⟩ ?_
  rintro _ _ ⟨rfl, rfl⟩
  exact r_vret dX5_init_59 rfl (by rw [hP]; exact ⟨rfl, fun q h h2 => by rw [up_ne (by omega), up_ne (by omega), up_ne (by omega), up_ne (by omega), up_ne (by omega), up_ne (by omega), up_ne (by omega), up_ne (by omega), up_ne (by omega)], by simp [up, hz 20 (by decide)], by simp [up], fun j hj => by simp [up, hj, hz 22 (by decide)]⟩)
set_option maxHeartbeats 1000000 in
set_option maxRecDepth 100000 in
theorem tX5_init_23 (G : GT) (σ : Sg) (hz : ∀ q, 23 ≤ q → σ q = fun _ => 0) : Ct G mX5_init 2 2 110 true ms55 ms59 [Rf G 23] σ (fun rv sv => none = rv ∧ InS σ sv 23) := by
  obtain ⟨P, hP⟩ : ∃ P : Option Value → Sg → Prop, P = (fun rv sv => none = rv ∧ InS σ sv 23) := ⟨_, rfl⟩
  rw [← hP]
  refine ct_of (lv := [(0, Rf G 23)]) (by decide +kernel) (Nat.le_of_ble_eq_true rfl) rfl ?_
  refine r_aload_n dX5_init_0 rfl rfl ?_
  refine r_objInit dX5_init_1 q29 (Nat.le_of_ble_eq_true rfl) (Nat.le_of_ble_eq_true rfl) ?_
  refine r_aload_n dX5_init_4 rfl rfl ?_
  refine r_iconst dX5_init_5 ?_
  refine r_putI (z := 0) tyX5 dX5_init_6 rfl rfl (ci := 5) (j := 0) rfl (Nat.le_of_ble_eq_true rfl) rfl tyX5_ok nmX5 ixX5 q33 rfl rfl rfl ?_
  refine r_aload_n dX5_init_9 rfl rfl ?_
  refine r_iconst dX5_init_10 ?_
  refine r_putI (z := 1) tyX5 dX5_init_11 rfl rfl (ci := 5) (j := 1) rfl (Nat.le_of_ble_eq_true rfl) rfl tyX5_ok nmX5 ixX5 q37 rfl rfl rfl ?_
  refine r_aload_n dX5_init_14 rfl rfl ?_
  refine r_iconst dX5_init_15 ?_
  refine r_putI (z := 2) tyX5 dX5_init_16 rfl rfl (ci := 5) (j := 2) rfl (Nat.le_of_ble_eq_true rfl) rfl tyX5_ok nmX5 ixX5 q41 rfl rfl rfl ?_
  refine r_aload_n dX5_init_19 rfl rfl ?_
  refine r_iconst dX5_init_20 ?_
  refine r_putI (z := 3) tyX5 dX5_init_21 rfl rfl (ci := 5) (j := 3) rfl (Nat.le_of_ble_eq_true rfl) rfl tyX5_ok nmX5 ixX5 q44 rfl rfl rfl ?_
  refine r_aload_n dX5_init_24 rfl rfl ?_
  refine r_iconst dX5_init_25 ?_
  refine r_putI (z := 4) tyX5 dX5_init_26 rfl rfl (ci := 5) (j := 4) rfl (Nat.le_of_ble_eq_true rfl) rfl tyX5_ok nmX5 ixX5 q46 rfl rfl rfl ?_
  refine r_aload_n dX5_init_29 rfl rfl ?_
  refine r_iconst dX5_init_30 ?_
  refine r_putI (z := 5) tyX5 dX5_init_31 rfl rfl (ci := 5) (j := 5) rfl (Nat.le_of_ble_eq_true rfl) rfl tyX5_ok nmX5 ixX5 q48 rfl rfl rfl ?_
  refine r_aload_n dX5_init_34 rfl rfl ?_
  refine r_bipush dX5_init_35 rfl ?_
  refine r_newi (N := 100) (sh2 := ms56) dX5_init_37 rfl (Nat.le_of_ble_eq_true rfl) (a := 24) rfl rfl ((up_ne (by decide)).trans ((up_ne (by decide)).trans ((up_ne (by decide)).trans ((up_ne (by decide)).trans ((up_ne (by decide)).trans ((up_ne (by decide)).trans (hz 24 (by decide)))))))) (Nat.le_of_ble_eq_true rfl) (Nat.le_of_ble_eq_true rfl) ?_
  refine r_putRF tyX5 dX5_init_39 rfl rfl (ci := 5) (j := 6) rfl (Nat.le_of_ble_eq_true rfl) tyX5_ok nmX5 ixX5 q50 rfl rfl rfl rfl rfl rfl rfl ?_
  refine r_shE (sh2 := ms57) rfl ?_
  refine r_aload_n dX5_init_42 rfl rfl ?_
  refine r_bipush dX5_init_43 rfl ?_
  refine r_newi (N := 10) (sh2 := ms58) dX5_init_45 rfl (Nat.le_of_ble_eq_true rfl) (a := 25) rfl rfl ((up_ne (by decide)).trans ((up_ne (by decide)).trans ((up_ne (by decide)).trans ((up_ne (by decide)).trans ((up_ne (by decide)).trans ((up_ne (by decide)).trans ((up_ne (by decide)).trans (hz 25 (by decide))))))))) (Nat.le_of_ble_eq_true rfl) (Nat.le_of_ble_eq_true rfl) ?_
  refine r_putRF tyX5 dX5_init_47 rfl rfl (ci := 5) (j := 7) rfl (Nat.le_of_ble_eq_true rfl) tyX5_ok nmX5 ixX5 q51 rfl rfl rfl rfl rfl rfl rfl ?_
  refine r_shE (sh2 := ms59) rfl ?_
  refine r_aload_n dX5_init_50 rfl rfl ?_
  refine r_getR (b := 25) dX5_init_51 rfl rfl (ci := 5) (j := 7) rfl (Nat.le_of_ble_eq_true rfl) ixX5 q51 rfl ?_
  refine r_iconst dX5_init_54 ?_
  refine r_iconst dX5_init_55 ?_
  refine r_callSN (tX7_setInN G (up (up (up (up (up (up (up (up σ 23 0 4) 23 1 4) 23 2 1) 23 3 0) 23 4 0) 23 5 0) 23 6 0) 23 7 0) 25 0 1 10 rfl (by omega)) dX5_init_56 svX7_setIn nw0 rfl ⟨Nat.le_of_ble_eq_true rfl, Nat.le_of_ble_eq_true rfl⟩ (Nat.le_of_ble_eq_true rfl) ⟨Nat.le_of_ble_eq_true rfl, Nat.le_of_ble_eq_true rfl⟩ ?_
  rintro _ _ ⟨rfl, rfl⟩
  exact r_vret dX5_init_59 rfl (by rw [hP]; exact ⟨rfl, fun q h h2 => by rw [up_ne (by omega), up_ne (by omega), up_ne (by omega), up_ne (by omega), up_ne (by omega), up_ne (by omega), up_ne (by omega), up_ne (by omega), up_ne (by omega)], by simp [up, hz 23 (by decide)], by simp [up], fun j hj => by simp [up, hj, hz 25 (by decide)]⟩)
set_option maxHeartbeats 1000000 in
set_option maxRecDepth 100000 in
theorem tX5_init_26 (G : GT) (σ : Sg) (hz : ∀ q, 26 ≤ q → σ q = fun _ => 0) : Ct G mX5_init 2 2 110 true ms62 ms66 [Rf G 26] σ (fun rv sv => none = rv ∧ InS σ sv 26) := by
  obtain ⟨P, hP⟩ : ∃ P : Option Value → Sg → Prop, P = (fun rv sv => none = rv ∧ InS σ sv 26) := ⟨_, rfl⟩
  rw [← hP]
  refine ct_of (lv := [(0, Rf G 26)]) (by decide +kernel) (Nat.le_of_ble_eq_true rfl) rfl ?_
  refine r_aload_n dX5_init_0 rfl rfl ?_
  refine r_objInit dX5_init_1 q29 (Nat.le_of_ble_eq_true rfl) (Nat.le_of_ble_eq_true rfl) ?_
  refine r_aload_n dX5_init_4 rfl rfl ?_
  refine r_iconst dX5_init_5 ?_
  refine r_putI (z := 0) tyX5 dX5_init_6 rfl rfl (ci := 5) (j := 0) rfl (Nat.le_of_ble_eq_true rfl) rfl tyX5_ok nmX5 ixX5 q33 rfl rfl rfl ?_
  refine r_aload_n dX5_init_9 rfl rfl ?_
  refine r_iconst dX5_init_10 ?_
  refine r_putI (z := 1) tyX5 dX5_init_11 rfl rfl (ci := 5) (j := 1) rfl (Nat.le_of_ble_eq_true rfl) rfl tyX5_ok nmX5 ixX5 q37 rfl rfl rfl ?_
  refine r_aload_n dX5_init_14 rfl rfl ?_
  refine r_iconst dX5_init_15 ?_
  refine r_putI (z := 2) tyX5 dX5_init_16 rfl rfl (ci := 5) (j := 2) rfl (Nat.le_of_ble_eq_true rfl) rfl tyX5_ok nmX5 ixX5 q41 rfl rfl rfl ?_
  refine r_aload_n dX5_init_19 rfl rfl ?_
  refine r_iconst dX5_init_20 ?_
  refine r_putI (z := 3) tyX5 dX5_init_21 rfl rfl (ci := 5) (j := 3) rfl (Nat.le_of_ble_eq_true rfl) rfl tyX5_ok nmX5 ixX5 q44 rfl rfl rfl ?_
  refine r_aload_n dX5_init_24 rfl rfl ?_
  refine r_iconst dX5_init_25 ?_
  refine r_putI (z := 4) tyX5 dX5_init_26 rfl rfl (ci := 5) (j := 4) rfl (Nat.le_of_ble_eq_true rfl) rfl tyX5_ok nmX5 ixX5 q46 rfl rfl rfl ?_
  refine r_aload_n dX5_init_29 rfl rfl ?_
  refine r_iconst dX5_init_30 ?_
  refine r_putI (z := 5) tyX5 dX5_init_31 rfl rfl (ci := 5) (j := 5) rfl (Nat.le_of_ble_eq_true rfl) rfl tyX5_ok nmX5 ixX5 q48 rfl rfl rfl ?_
  refine r_aload_n dX5_init_34 rfl rfl ?_
  refine r_bipush dX5_init_35 rfl ?_
  refine r_newi (N := 100) (sh2 := ms63) dX5_init_37 rfl (Nat.le_of_ble_eq_true rfl) (a := 27) rfl rfl ((up_ne (by decide)).trans ((up_ne (by decide)).trans ((up_ne (by decide)).trans ((up_ne (by decide)).trans ((up_ne (by decide)).trans ((up_ne (by decide)).trans (hz 27 (by decide)))))))) (Nat.le_of_ble_eq_true rfl) (Nat.le_of_ble_eq_true rfl) ?_
  refine r_putRF tyX5 dX5_init_39 rfl rfl (ci := 5) (j := 6) rfl (Nat.le_of_ble_eq_true rfl) tyX5_ok nmX5 ixX5 q50 rfl rfl rfl rfl rfl rfl rfl ?_
  refine r_shE (sh2 := ms64) rfl ?_
  refine r_aload_n dX5_init_42 rfl rfl ?_
  refine r_bipush dX5_init_43 rfl ?_
  refine r_newi (N := 10) (sh2 := ms65) dX5_init_45 rfl (Nat.le_of_ble_eq_true rfl) (a := 28) rfl rfl ((up_ne (by decide)).trans ((up_ne (by decide)).trans ((up_ne (by decide)).trans ((up_ne (by decide)).trans ((up_ne (by decide)).trans ((up_ne (by decide)).trans ((up_ne (by decide)).trans (hz 28 (by decide))))))))) (Nat.le_of_ble_eq_true rfl) (Nat.le_of_ble_eq_true rfl) ?_
  refine r_putRF tyX5 dX5_init_47 rfl rfl (ci := 5) (j := 7) rfl (Nat.le_of_ble_eq_true rfl) tyX5_ok nmX5 ixX5 q51 rfl rfl rfl rfl rfl rfl rfl ?_
  refine r_shE (sh2 := ms66) rfl ?_
  refine r_aload_n dX5_init_50 rfl rfl ?_
  refine r_getR (b := 28) dX5_init_51 rfl rfl (ci := 5) (j := 7) rfl (Nat.le_of_ble_eq_true rfl) ixX5 q51 rfl ?_
  refine r_iconst dX5_init_54 ?_
  refine r_iconst dX5_init_55 ?_
  refine r_callSN (tX7_setInN G (up (up (up (up (up (up (up (up σ 26 0 4) 26 1 4) 26 2 1) 26 3 0) 26 4 0) 26 5 0) 26 6 0) 26 7 0) 28 0 1 10 rfl (by omega)) dX5_init_56 svX7_setIn nw0 rfl ⟨Nat.le_of_ble_eq_true rfl, Nat.le_of_ble_eq_true rfl⟩ (Nat.le_of_ble_eq_true rfl) ⟨Nat.le_of_ble_eq_true rfl, Nat.le_of_ble_eq_true rfl⟩ ?_
  rintro _ _ ⟨rfl, rfl⟩
  exact r_vret dX5_init_59 rfl (by rw [hP]; exact ⟨rfl, fun q h h2 => by rw [up_ne (by omega), up_ne (by omega), up_ne (by omega), up_ne (by omega), up_ne (by omega), up_ne (by omega), up_ne (by omega), up_ne (by omega), up_ne (by omega)], by simp [up, hz 26 (by decide)], by simp [up], fun j hj => by simp [up, hj, hz 28 (by decide)]⟩)
set_option maxHeartbeats 1000000 in
set_option maxRecDepth 100000 in
theorem tX5_init_29 (G : GT) (σ : Sg) (hz : ∀ q, 29 ≤ q → σ q = fun _ => 0) : Ct G mX5_init 2 2 110 true ms69 ms73 [Rf G 29] σ (fun rv sv => none = rv ∧ InS σ sv 29) := by
  obtain ⟨P, hP⟩ : ∃ P : Option Value → Sg → Prop, P = (fun rv sv => none = rv ∧ InS σ sv 29) := ⟨_, rfl⟩
  rw [← hP]
  refine ct_of (lv := [(0, Rf G 29)]) (by decide +kernel) (Nat.le_of_ble_eq_true rfl) rfl ?_
  refine r_aload_n dX5_init_0 rfl rfl ?_
  refine r_objInit dX5_init_1 q29 (Nat.le_of_ble_eq_true rfl) (Nat.le_of_ble_eq_true rfl) ?_
  refine r_aload_n dX5_init_4 rfl rfl ?_
  refine r_iconst dX5_init_5 ?_
  refine r_putI (z := 0) tyX5 dX5_init_6 rfl rfl (ci := 5) (j := 0) rfl (Nat.le_of_ble_eq_true rfl) rfl tyX5_ok nmX5 ixX5 q33 rfl rfl rfl ?_
  refine r_aload_n dX5_init_9 rfl rfl ?_
  refine r_iconst dX5_init_10 ?_
  refine r_putI (z := 1) tyX5 dX5_init_11 rfl rfl (ci := 5) (j := 1) rfl (Nat.le_of_ble_eq_true rfl) rfl tyX5_ok nmX5 ixX5 q37 rfl rfl rfl ?_
  refine r_aload_n dX5_init_14 rfl rfl ?_
  refine r_iconst dX5_init_15 ?_
  refine r_putI (z := 2) tyX5 dX5_init_16 rfl rfl (ci := 5) (j := 2) rfl (Nat.le_of_ble_eq_true rfl) rfl tyX5_ok nmX5 ixX5 q41 rfl rfl rfl ?_
  refine r_aload_n dX5_init_19 rfl rfl ?_
  refine r_iconst dX5_init_20 ?_
  refine r_putI (z := 3) tyX5 dX5_init_21 rfl rfl (ci := 5) (j := 3) rfl (Nat.le_of_ble_eq_true rfl) rfl tyX5_ok nmX5 ixX5 q44 rfl rfl rfl ?_
  refine r_aload_n dX5_init_24 rfl rfl ?_
  refine r_iconst dX5_init_25 ?_
  refine r_putI (z := 4) tyX5 dX5_init_26 rfl rfl (ci := 5) (j := 4) rfl (Nat.le_of_ble_eq_true rfl) rfl tyX5_ok nmX5 ixX5 q46 rfl rfl rfl ?_
  refine r_aload_n dX5_init_29 rfl rfl ?_
  refine r_iconst dX5_init_30 ?_
  refine r_putI (z := 5) tyX5 dX5_init_31 rfl rfl (ci := 5) (j := 5) rfl (Nat.le_of_ble_eq_true rfl) rfl tyX5_ok nmX5 ixX5 q48 rfl rfl rfl ?_
  refine r_aload_n dX5_init_34 rfl rfl ?_
  refine r_bipush dX5_init_35 rfl ?_
  refine r_newi (N := 100) (sh2 := ms70) dX5_init_37 rfl (Nat.le_of_ble_eq_true rfl) (a := 30) rfl rfl ((up_ne (by decide)).trans ((up_ne (by decide)).trans ((up_ne (by decide)).trans ((up_ne (by decide)).trans ((up_ne (by decide)).trans ((up_ne (by decide)).trans (hz 30 (by decide)))))))) (Nat.le_of_ble_eq_true rfl) (Nat.le_of_ble_eq_true rfl) ?_
  refine r_putRF tyX5 dX5_init_39 rfl rfl (ci := 5) (j := 6) rfl (Nat.le_of_ble_eq_true rfl) tyX5_ok nmX5 ixX5 q50 rfl rfl rfl rfl rfl rfl rfl ?_
  refine r_shE (sh2 := ms71) rfl ?_
  refine r_aload_n dX5_init_42 rfl rfl ?_
  refine r_bipush dX5_init_43 rfl ?_
  refine r_newi (N := 10) (sh2 := ms72) dX5_init_45 rfl (Nat.le_of_ble_eq_true rfl) (a := 31) rfl rfl ((up_ne (by decide)).trans ((up_ne (by decide)).trans ((up_ne (by decide)).trans ((up_ne (by decide)).trans ((up_ne (by decide)).trans ((up_ne (by decide)).trans ((up_ne (by decide)).trans (hz 31 (by decide))))))))) (Nat.le_of_ble_eq_true rfl) (Nat.le_of_ble_eq_true rfl) ?_
  refine r_putRF tyX5 dX5_init_47 rfl rfl (ci := 5) (j := 7) rfl (Nat.le_of_ble_eq_true rfl) tyX5_ok nmX5 ixX5 q51 rfl rfl rfl rfl rfl rfl rfl ?_
  refine r_shE (sh2 := ms73) rfl ?_
  refine r_aload_n dX5_init_50 rfl rfl ?_
  refine r_getR (b := 31) dX5_init_51 rfl rfl (ci := 5) (j := 7) rfl (Nat.le_of_ble_eq_true rfl) ixX5 q51 rfl ?_
  refine r_iconst dX5_init_54 ?_
  refine r_iconst dX5_init_55 ?_
  refine r_callSN (tX7_setInN G (up (up (up (up (up (up (up (up σ 29 0 4) 29 1 4) 29 2 1) 29 3 0) 29 4 0) 29 5 0) 29 6 0) 29 7 0) 31 0 1 10 rfl (by omega)) dX5_init_56 svX7_setIn nw0 rfl ⟨Nat.le_of_ble_eq_true rfl, Nat.le_of_ble_eq_true rfl⟩ (Nat.le_of_ble_eq_true rfl) ⟨Nat.le_of_ble_eq_true rfl, Nat.le_of_ble_eq_true rfl⟩ ?_
  rintro _ _ ⟨rfl, rfl⟩
  exact r_vret dX5_init_59 rfl (by rw [hP]; exact ⟨rfl, fun q h h2 => by rw [up_ne (by omega), up_ne (by omega), up_ne (by omega), up_ne (by omega), up_ne (by omega), up_ne (by omega), up_ne (by omega), up_ne (by omega), up_ne (by omega)], by simp [up, hz 29 (by decide)], by simp [up], fun j hj => by simp [up, hj, hz 31 (by decide)]⟩)
set_option maxHeartbeats 1000000 in
set_option maxRecDepth 100000 in
theorem tX5_init_32 (G : GT) (σ : Sg) (hz : ∀ q, 32 ≤ q → σ q = fun _ => 0) : Ct G mX5_init 2 2 110 true ms76 ms80 [Rf G 32] σ (fun rv sv => none = rv ∧ InS σ sv 32) := by
  obtain ⟨P, hP⟩ : ∃ P : Option Value → Sg → Prop, P = (fun rv sv => none = rv ∧ InS σ sv 32) := ⟨_, rfl⟩
  rw [← hP]
  refine ct_of (lv := [(0, Rf G 32)]) (by decide +kernel) (Nat.le_of_ble_eq_true rfl) rfl ?_
  refine r_aload_n dX5_init_0 rfl rfl ?_
  refine r_objInit dX5_init_1 q29 (Nat.le_of_ble_eq_true rfl) (Nat.le_of_ble_eq_true rfl) ?_
  refine r_aload_n dX5_init_4 rfl rfl ?_
  refine r_iconst dX5_init_5 ?_
  refine r_putI (z := 0) tyX5 dX5_init_6 rfl rfl (ci := 5) (j := 0) rfl (Nat.le_of_ble_eq_true rfl) rfl tyX5_ok nmX5 ixX5 q33 rfl rfl rfl ?_
  refine r_aload_n dX5_init_9 rfl rfl ?_
  refine r_iconst dX5_init_10 ?_
  refine r_putI (z := 1) tyX5 dX5_init_11 rfl rfl (ci := 5) (j := 1) rfl (Nat.le_of_ble_eq_true rfl) rfl tyX5_ok nmX5 ixX5 q37 rfl rfl rfl ?_
  refine r_aload_n dX5_init_14 rfl rfl ?_
  refine r_iconst dX5_init_15 ?_
  refine r_putI (z := 2) tyX5 dX5_init_16 rfl rfl (ci := 5) (j := 2) rfl (Nat.le_of_ble_eq_true rfl) rfl tyX5_ok nmX5 ixX5 q41 rfl rfl rfl ?_
  refine r_aload_n dX5_init_19 rfl rfl ?_
  refine r_iconst dX5_init_20 ?_
  refine r_putI (z := 3) tyX5 dX5_init_21 rfl rfl (ci := 5) (j := 3) rfl (Nat.le_of_ble_eq_true rfl) rfl tyX5_ok nmX5 ixX5 q44 rfl rfl rfl ?_
  refine r_aload_n dX5_init_24 rfl rfl ?_
  refine r_iconst dX5_init_25 ?_
  refine r_putI (z := 4) tyX5 dX5_init_26 rfl rfl (ci := 5) (j := 4) rfl (Nat.le_of_ble_eq_true rfl) rfl tyX5_ok nmX5 ixX5 q46 rfl rfl rfl ?_
  refine r_aload_n dX5_init_29 rfl rfl ?_
  refine r_iconst dX5_init_30 ?_
  refine r_putI (z := 5) tyX5 dX5_init_31 rfl rfl (ci := 5) (j := 5) rfl (Nat.le_of_ble_eq_true rfl) rfl tyX5_ok nmX5 ixX5 q48 rfl rfl rfl ?_
  refine r_aload_n dX5_init_34 rfl rfl ?_
  refine r_bipush dX5_init_35 rfl ?_
  refine r_newi (N := 100) (sh2 := ms77) dX5_init_37 rfl (Nat.le_of_ble_eq_true rfl) (a := 33) rfl rfl ((up_ne (by decide)).trans ((up_ne (by decide)).trans ((up_ne (by decide)).trans ((up_ne (by decide)).trans ((up_ne (by decide)).trans ((up_ne (by decide)).trans (hz 33 (by decide)))))))) (Nat.le_of_ble_eq_true rfl) (Nat.le_of_ble_eq_true rfl) ?_
  refine r_putRF tyX5 dX5_init_39 rfl rfl (ci := 5) (j := 6) rfl (Nat.le_of_ble_eq_true rfl) tyX5_ok nmX5 ixX5 q50 rfl rfl rfl rfl rfl rfl rfl ?_
  refine r_shE (sh2 := ms78) rfl ?_
  refine r_aload_n dX5_init_42 rfl rfl ?_
  refine r_bipush dX5_init_43 rfl ?_
  refine r_newi (N := 10) (sh2 := ms79) dX5_init_45 rfl (Nat.le_of_ble_eq_true rfl) (a := 34) rfl rfl ((up_ne (by decide)).trans ((up_ne (by decide)).trans ((up_ne (by decide)).trans ((up_ne (by decide)).trans ((up_ne (by decide)).trans ((up_ne (by decide)).trans ((up_ne (by decide)).trans (hz 34 (by decide))))))))) (Nat.le_of_ble_eq_true rfl) (Nat.le_of_ble_eq_true rfl) ?_
  refine r_putRF tyX5 dX5_init_47 rfl rfl (ci := 5) (j := 7) rfl (Nat.le_of_ble_eq_true rfl) tyX5_ok nmX5 ixX5 q51 rfl rfl rfl rfl rfl rfl rfl ?_
  refine r_shE (sh2 := ms80) rfl ?_
  refine r_aload_n dX5_init_50 rfl rfl ?_
  refine r_getR (b := 34) dX5_init_51 rfl rfl (ci := 5) (j := 7) rfl (Nat.le_of_ble_eq_true rfl) ixX5 q51 rfl ?_
  refine r_iconst dX5_init_54 ?_
  refine r_iconst dX5_init_55 ?_
  refine r_callSN (tX7_setInN G (up (up (up (up (up (up (up (up σ 32 0 4) 32 1 4) 32 2 1) 32 3 0) 32 4 0) 32 5 0) 32 6 0) 32 7 0) 34 0 1 10 rfl (by omega)) dX5_init_56 svX7_setIn nw0 rfl ⟨Nat.le_of_ble_eq_true rfl, Nat.le_of_ble_eq_true rfl⟩ (Nat.le_of_ble_eq_true rfl) ⟨Nat.le_of_ble_eq_true rfl, Nat.le_of_ble_eq_true rfl⟩ ?_
  rintro _ _ ⟨rfl, rfl⟩
  exact r_vret dX5_init_59 rfl (by rw [hP]; exact ⟨rfl, fun q h h2 => by rw [up_ne (by omega), up_ne (by omega), up_ne (by omega), up_ne (by omega), up_ne (by omega), up_ne (by omega), up_ne (by omega), up_ne (by omega), up_ne (by omega)], by simp [up, hz 32 (by decide)], by simp [up], fun j hj => by simp [up, hj, hz 34 (by decide)]⟩)
set_option maxHeartbeats 1000000 in
set_option maxRecDepth 100000 in
theorem tX5_init_35 (G : GT) (σ : Sg) (hz : ∀ q, 35 ≤ q → σ q = fun _ => 0) : Ct G mX5_init 2 2 110 true ms83 ms87 [Rf G 35] σ (fun rv sv => none = rv ∧ InS σ sv 35) := by
  obtain ⟨P, hP⟩ : ∃ P : Option Value → Sg → Prop, P = (fun rv sv => none = rv ∧ InS σ sv 35) := ⟨_, rfl⟩
  rw [← hP]
  refine ct_of (lv := [(0, Rf G 35)]) (by decide +kernel) (Nat.le_of_ble_eq_true rfl) rfl ?_
  refine r_aload_n dX5_init_0 rfl rfl ?_
  refine r_objInit dX5_init_1 q29 (Nat.le_of_ble_eq_true rfl) (Nat.le_of_ble_eq_true rfl) ?_
  refine r_aload_n dX5_init_4 rfl rfl ?_
  refine r_iconst dX5_init_5 ?_
  refine r_putI (z := 0) tyX5 dX5_init_6 rfl rfl (ci := 5) (j := 0) rfl (Nat.le_of_ble_eq_true rfl) rfl tyX5_ok nmX5 ixX5 q33 rfl rfl rfl ?_
  refine r_aload_n dX5_init_9 rfl rfl ?_
  refine r_iconst dX5_init_10 ?_
  refine r_putI (z := 1) tyX5 dX5_init_11 rfl rfl (ci := 5) (j := 1) rfl (Nat.le_of_ble_eq_true rfl) rfl tyX5_ok nmX5 ixX5 q37 rfl rfl rfl ?_
  refine r_aload_n dX5_init_14 rfl rfl ?_
  refine r_iconst dX5_init_15 ?_
  refine r_putI (z := 2) tyX5 dX5_init_16 rfl rfl (ci := 5) (j := 2) rfl (Nat.le_of_ble_eq_true rfl) rfl tyX5_ok nmX5 ixX5 q41 rfl rfl rfl ?_
  refine r_aload_n dX5_init_19 rfl rfl ?_
  refine r_iconst dX5_init_20 ?_
  refine r_putI (z := 3) tyX5 dX5_init_21 rfl rfl (ci := 5) (j := 3) rfl (Nat.le_of_ble_eq_true rfl) rfl tyX5_ok nmX5 ixX5 q44 rfl rfl rfl ?_
  refine r_aload_n dX5_init_24 rfl rfl ?_
  refine r_iconst dX5_init_25 ?_
  refine r_putI (z := 4) tyX5 dX5_init_26 rfl rfl (ci := 5) (j := 4) rfl (Nat.le_of_ble_eq_true rfl) rfl tyX5_ok nmX5 ixX5 q46 rfl rfl rfl ?_
  refine r_aload_n dX5_init_29 rfl rfl ?_
  refine r_iconst dX5_init_30 ?_
  refine r_putI (z := 5) tyX5 dX5_init_31 rfl rfl (ci := 5) (j := 5) rfl (Nat.le_of_ble_eq_true rfl) rfl tyX5_ok nmX5 ixX5 q48 rfl rfl rfl ?_
  refine r_aload_n dX5_init_34 rfl rfl ?_
  refine r_bipush dX5_init_35 rfl ?_
  refine r_newi (N := 100) (sh2 := ms84) dX5_init_37 rfl (Nat.le_of_ble_eq_true rfl) (a := 36) rfl rfl ((up_ne (by decide)).trans ((up_ne (by decide)).trans ((up_ne (by decide)).trans ((up_ne (by decide)).trans ((up_ne (by decide)).trans ((up_ne (by decide)).trans (hz 36 (by decide)))))))) (Nat.le_of_ble_eq_true rfl) (Nat.le_of_ble_eq_true rfl) ?_
  refine r_putRF tyX5 dX5_init_39 rfl rfl (ci := 5) (j := 6) rfl (Nat.le_of_ble_eq_true rfl) tyX5_ok nmX5 ixX5 q50 rfl rfl rfl rfl rfl rfl rfl ?_
  refine r_shE (sh2 := ms85) rfl ?_
  refine r_aload_n dX5_init_42 rfl rfl ?_
  refine r_bipush dX5_init_43 rfl ?_
  refine r_newi (N := 10) (sh2 := ms86) dX5_init_45 rfl (Nat.le_of_ble_eq_true rfl) (a := 37) rfl rfl ((up_ne (by decide)).trans ((up_ne (by decide)).trans ((up_ne (by decide)).trans ((up_ne (by decide)).trans ((up_ne (by decide)).trans ((up_ne (by decide)).trans ((up_ne (by decide)).trans (hz 37 (by decide))))))))) (Nat.le_of_ble_eq_true rfl) (Nat.le_of_ble_eq_true rfl) ?_
  refine r_putRF tyX5 dX5_init_47 rfl rfl (ci := 5) (j := 7) rfl (Nat.le_of_ble_eq_true rfl) tyX5_ok nmX5 ixX5 q51 rfl rfl rfl rfl rfl rfl rfl ?_
  refine r_shE (sh2 := ms87) rfl ?_
  refine r_aload_n dX5_init_50 rfl rfl ?_
  refine r_getR (b := 37) dX5_init_51 rfl rfl (ci := 5) (j := 7) rfl (Nat.le_of_ble_eq_true rfl) ixX5 q51 rfl ?_
  refine r_iconst dX5_init_54 ?_
  refine r_iconst dX5_init_55 ?_
  refine r_callSN (tX7_setInN G (up (up (up (up (up (up (up (up σ 35 0 4) 35 1 4) 35 2 1) 35 3 0) 35 4 0) 35 5 0) 35 6 0) 35 7 0) 37 0 1 10 rfl (by omega)) dX5_init_56 svX7_setIn nw0 rfl ⟨Nat.le_of_ble_eq_true rfl, Nat.le_of_ble_eq_true rfl⟩ (Nat.le_of_ble_eq_true rfl) ⟨Nat.le_of_ble_eq_true rfl, Nat.le_of_ble_eq_true rfl⟩ ?_
  rintro _ _ ⟨rfl, rfl⟩
  exact r_vret dX5_init_59 rfl (by rw [hP]; exact ⟨rfl, fun q h h2 => by rw [up_ne (by omega), up_ne (by omega), up_ne (by omega), up_ne (by omega), up_ne (by omega), up_ne (by omega), up_ne (by omega), up_ne (by omega), up_ne (by omega)], by simp [up, hz 35 (by decide)], by simp [up], fun j hj => by simp [up, hj, hz 37 (by decide)]⟩)
set_option maxHeartbeats 1000000 in
set_option maxRecDepth 100000 in
theorem tX2_init_18 (G : GT) (σ : Sg) (hz : ∀ q, 18 ≤ q → σ q = fun _ => 0) : CtN G mX2_init 3 19 714 ms44 ms89 [Rf G 18] σ (fun rv sv => none = rv ∧ InH σ sv) := by
  obtain ⟨P, hP⟩ : ∃ P : Option Value → Sg → Prop, P = (fun rv sv => none = rv ∧ InH σ sv) := ⟨_, rfl⟩
  rw [← hP]
  refine ctn_of (lv := [(0, Rf G 18)]) (by decide +kernel) (Nat.le_of_ble_eq_true rfl) rfl ?_
  refine r_aload_n dX2_init_0 rfl rfl ?_
  refine r_objInit dX2_init_1 q112 (Nat.le_of_ble_eq_true rfl) (Nat.le_of_ble_eq_true rfl) ?_
  refine r_aload_n dX2_init_4 rfl rfl ?_
  refine r_iconst dX2_init_5 ?_
  refine r_putI (z := 0) tyX2 dX2_init_6 rfl rfl (ci := 2) (j := 0) rfl (Nat.le_of_ble_eq_true rfl) rfl tyX2_ok nmX2 ixX2 q115 rfl rfl rfl ?_
  refine r_aload_n dX2_init_9 rfl rfl ?_
  refine r_iconst dX2_init_10 ?_
  refine r_putI (z := 1) tyX2 dX2_init_11 rfl rfl (ci := 2) (j := 1) rfl (Nat.le_of_ble_eq_true rfl) rfl tyX2_ok nmX2 ixX2 q117 rfl rfl rfl ?_
  refine r_aload_n dX2_init_14 rfl rfl ?_
  refine r_bipush dX2_init_15 rfl ?_
  refine r_newq (N := 6) (sh2 := ms45) EA_ok dX2_init_17 q113 rfl (Nat.le_of_ble_eq_true rfl) (a := 19) rfl rfl (Nat.le_of_ble_eq_true rfl) (Nat.le_of_ble_eq_true rfl) ?_
  refine r_putRF tyX2 dX2_init_20 rfl rfl (ci := 2) (j := 2) rfl (Nat.le_of_ble_eq_true rfl) tyX2_ok nmX2 ixX2 q118 rfl rfl rfl rfl rfl rfl rfl ?_
  refine r_shE (sh2 := ms46) rfl ?_
  refine r_iconst dX2_init_23 ?_
  refine r_istore_n (lv' := [(0, Rf G 18), (1, I 0)]) dX2_init_24 rfl (Nat.le_of_ble_eq_true rfl) rfl ?_
  refine r_iload_n dX2_init_25 rfl rfl ?_
  refine r_aload_n dX2_init_26 rfl rfl ?_
  refine r_getR (b := 19) dX2_init_27 rfl rfl (ci := 2) (j := 2) rfl (Nat.le_of_ble_eq_true rfl) ixX2 q118 rfl ?_
  refine r_alenq dX2_init_30 (a := 19) rfl ?_
  refine r_icmp_ge (tgt := 53) dX2_init_31 (by decide) (by omega) (fun hb1 => ?_) (fun hb1 => ?_)
  · exact absurd hb1 (by omega)
  refine r_aload_n dX2_init_34 rfl rfl ?_
  refine r_getR (b := 19) dX2_init_35 rfl rfl (ci := 2) (j := 2) rfl (Nat.le_of_ble_eq_true rfl) ixX2 q118 rfl ?_
  refine r_iload_n dX2_init_38 rfl rfl ?_
  refine r_new (ci := 5) (N := 8) (sh2 := ms47) tyX5 dX2_init_39 q113 q25 q2 rfl tyX5_ok ixX5 (a := 20) rfl rfl ((up_ne (by decide)).trans ((up_ne (by decide)).trans ((up_ne (by decide)).trans (hz 20 (by decide))))) hfs5 (Nat.le_of_ble_eq_true rfl) (Nat.le_of_ble_eq_true rfl) ?_
  refine r_dup dX2_init_42 rfl ?_
  refine r_callI (tX5_init_20 G (up (up (up σ 18 0 0) 18 1 0) 18 2 0) (fun q hq => (up_ne (by omega)).trans ((up_ne (by omega)).trans ((up_ne (by omega)).trans (hz q (by omega)))))) dX2_init_43 svX5_init q114 rfl ⟨Nat.le_of_ble_eq_true rfl, Nat.le_of_ble_eq_true rfl⟩ (Nat.le_of_ble_eq_true rfl) ⟨Nat.le_of_ble_eq_true rfl, Nat.le_of_ble_eq_true rfl⟩ ?_
  rintro _ s2 ⟨rfl, h2⟩
  refine r_aastn (sh2 := ms53) (g2 := gsv1) dX2_init_46 (a := 19) rfl rfl (by omega) rfl rfl ?_
  refine r_iinc (lv' := [(0, Rf G 18), (1, I (0 + 1))]) dX2_init_47 (Nat.le_of_ble_eq_true rfl) rfl rfl ?_
  refine r_goto (tgt := 25) dX2_init_50 (by decide) ?_
  refine r_iload_n dX2_init_25 rfl rfl ?_
  refine r_aload_n dX2_init_26 rfl rfl ?_
  refine r_getR (b := 19) dX2_init_27 rfl rfl (ci := 2) (j := 2) rfl (Nat.le_of_ble_eq_true rfl) ixX2 q118 rfl ?_
  refine r_alenq dX2_init_30 (a := 19) rfl ?_
  refine r_icmp_ge (tgt := 53) dX2_init_31 (by decide) (by omega) (fun hb3 => ?_) (fun hb3 => ?_)
  · exact absurd hb3 (by omega)
  refine r_aload_n dX2_init_34 rfl rfl ?_
  refine r_getR (b := 19) dX2_init_35 rfl rfl (ci := 2) (j := 2) rfl (Nat.le_of_ble_eq_true rfl) ixX2 q118 rfl ?_
  refine r_iload_n dX2_init_38 rfl rfl ?_
  refine r_new (ci := 5) (N := 8) (sh2 := ms54) tyX5 dX2_init_39 q113 q25 q2 rfl tyX5_ok ixX5 (a := 23) rfl rfl ((h2.1 23 (by decide) (by decide)).trans ((up_ne (by decide)).trans ((up_ne (by decide)).trans ((up_ne (by decide)).trans (hz 23 (by decide)))))) hfs5 (Nat.le_of_ble_eq_true rfl) (Nat.le_of_ble_eq_true rfl) ?_
  refine r_dup dX2_init_42 rfl ?_
  refine r_callI (tX5_init_23 G s2 (fun q hq => (h2.1 q (by omega) (by omega)).trans ((up_ne (by omega)).trans ((up_ne (by omega)).trans ((up_ne (by omega)).trans (hz q (by omega))))))) dX2_init_43 svX5_init q114 rfl ⟨Nat.le_of_ble_eq_true rfl, Nat.le_of_ble_eq_true rfl⟩ (Nat.le_of_ble_eq_true rfl) ⟨Nat.le_of_ble_eq_true rfl, Nat.le_of_ble_eq_true rfl⟩ ?_
  rintro _ s4 ⟨rfl, h4⟩
  refine r_aastn (sh2 := ms60) (g2 := gsv2) dX2_init_46 (a := 19) rfl rfl (by omega) rfl rfl ?_
  refine r_iinc (lv' := [(0, Rf G 18), (1, I (0 + 1 + 1))]) dX2_init_47 (Nat.le_of_ble_eq_true rfl) rfl rfl ?_
  refine r_goto (tgt := 25) dX2_init_50 (by decide) ?_
  refine r_iload_n dX2_init_25 rfl rfl ?_
  refine r_aload_n dX2_init_26 rfl rfl ?_
  refine r_getR (b := 19) dX2_init_27 rfl rfl (ci := 2) (j := 2) rfl (Nat.le_of_ble_eq_true rfl) ixX2 q118 rfl ?_
  refine r_alenq dX2_init_30 (a := 19) rfl ?_
  refine r_icmp_ge (tgt := 53) dX2_init_31 (by decide) (by omega) (fun hb5 => ?_) (fun hb5 => ?_)
  · exact absurd hb5 (by omega)
  refine r_aload_n dX2_init_34 rfl rfl ?_
  refine r_getR (b := 19) dX2_init_35 rfl rfl (ci := 2) (j := 2) rfl (Nat.le_of_ble_eq_true rfl) ixX2 q118 rfl ?_
  refine r_iload_n dX2_init_38 rfl rfl ?_
  refine r_new (ci := 5) (N := 8) (sh2 := ms61) tyX5 dX2_init_39 q113 q25 q2 rfl tyX5_ok ixX5 (a := 26) rfl rfl ((h4.1 26 (by decide) (by decide)).trans ((h2.1 26 (by decide) (by decide)).trans ((up_ne (by decide)).trans ((up_ne (by decide)).trans ((up_ne (by decide)).trans (hz 26 (by decide))))))) hfs5 (Nat.le_of_ble_eq_true rfl) (Nat.le_of_ble_eq_true rfl) ?_
  refine r_dup dX2_init_42 rfl ?_
  refine r_callI (tX5_init_26 G s4 (fun q hq => (h4.1 q (by omega) (by omega)).trans ((h2.1 q (by omega) (by omega)).trans ((up_ne (by omega)).trans ((up_ne (by omega)).trans ((up_ne (by omega)).trans (hz q (by omega)))))))) dX2_init_43 svX5_init q114 rfl ⟨Nat.le_of_ble_eq_true rfl, Nat.le_of_ble_eq_true rfl⟩ (Nat.le_of_ble_eq_true rfl) ⟨Nat.le_of_ble_eq_true rfl, Nat.le_of_ble_eq_true rfl⟩ ?_
  rintro _ s6 ⟨rfl, h6⟩
  refine r_aastn (sh2 := ms67) (g2 := gsv3) dX2_init_46 (a := 19) rfl rfl (by omega) rfl rfl ?_
  refine r_iinc (lv' := [(0, Rf G 18), (1, I (0 + 1 + 1 + 1))]) dX2_init_47 (Nat.le_of_ble_eq_true rfl) rfl rfl ?_
  refine r_goto (tgt := 25) dX2_init_50 (by decide) ?_
  refine r_iload_n dX2_init_25 rfl rfl ?_
  refine r_aload_n dX2_init_26 rfl rfl ?_
  refine r_getR (b := 19) dX2_init_27 rfl rfl (ci := 2) (j := 2) rfl (Nat.le_of_ble_eq_true rfl) ixX2 q118 rfl ?_
  refine r_alenq dX2_init_30 (a := 19) rfl ?_
  refine r_icmp_ge (tgt := 53) dX2_init_31 (by decide) (by omega) (fun hb7 => ?_) (fun hb7 => ?_)
  · exact absurd hb7 (by omega)
  refine r_aload_n dX2_init_34 rfl rfl ?_
  refine r_getR (b := 19) dX2_init_35 rfl rfl (ci := 2) (j := 2) rfl (Nat.le_of_ble_eq_true rfl) ixX2 q118 rfl ?_
  refine r_iload_n dX2_init_38 rfl rfl ?_
  refine r_new (ci := 5) (N := 8) (sh2 := ms68) tyX5 dX2_init_39 q113 q25 q2 rfl tyX5_ok ixX5 (a := 29) rfl rfl ((h6.1 29 (by decide) (by decide)).trans ((h4.1 29 (by decide) (by decide)).trans ((h2.1 29 (by decide) (by decide)).trans ((up_ne (by decide)).trans ((up_ne (by decide)).trans ((up_ne (by decide)).trans (hz 29 (by decide)))))))) hfs5 (Nat.le_of_ble_eq_true rfl) (Nat.le_of_ble_eq_true rfl) ?_
  refine r_dup dX2_init_42 rfl ?_
  refine r_callI (tX5_init_29 G s6 (fun q hq => (h6.1 q (by omega) (by omega)).trans ((h4.1 q (by omega) (by omega)).trans ((h2.1 q (by omega) (by omega)).trans ((up_ne (by omega)).trans ((up_ne (by omega)).trans ((up_ne (by omega)).trans (hz q (by omega))))))))) dX2_init_43 svX5_init q114 rfl ⟨Nat.le_of_ble_eq_true rfl, Nat.le_of_ble_eq_true rfl⟩ (Nat.le_of_ble_eq_true rfl) ⟨Nat.le_of_ble_eq_true rfl, Nat.le_of_ble_eq_true rfl⟩ ?_
  rintro _ s8 ⟨rfl, h8⟩
  refine r_aastn (sh2 := ms74) (g2 := gsv4) dX2_init_46 (a := 19) rfl rfl (by omega) rfl rfl ?_
  refine r_iinc (lv' := [(0, Rf G 18), (1, I (0 + 1 + 1 + 1 + 1))]) dX2_init_47 (Nat.le_of_ble_eq_true rfl) rfl rfl ?_
  refine r_goto (tgt := 25) dX2_init_50 (by decide) ?_
  refine r_iload_n dX2_init_25 rfl rfl ?_
  refine r_aload_n dX2_init_26 rfl rfl ?_
  refine r_getR (b := 19) dX2_init_27 rfl rfl (ci := 2) (j := 2) rfl (Nat.le_of_ble_eq_true rfl) ixX2 q118 rfl ?_
  refine r_alenq dX2_init_30 (a := 19) rfl ?_
  refine r_icmp_ge (tgt := 53) dX2_init_31 (by decide) (by omega) (fun hb9 => ?_) (fun hb9 => ?_)
  · exact absurd hb9 (by omega)
  refine r_aload_n dX2_init_34 rfl rfl ?_
  refine r_getR (b := 19) dX2_init_35 rfl rfl (ci := 2) (j := 2) rfl (Nat.le_of_ble_eq_true rfl) ixX2 q118 rfl ?_
  refine r_iload_n dX2_init_38 rfl rfl ?_
  refine r_new (ci := 5) (N := 8) (sh2 := ms75) tyX5 dX2_init_39 q113 q25 q2 rfl tyX5_ok ixX5 (a := 32) rfl rfl ((h8.1 32 (by decide) (by decide)).trans ((h6.1 32 (by decide) (by decide)).trans ((h4.1 32 (by decide) (by decide)).trans ((h2.1 32 (by decide) (by decide)).trans ((up_ne (by decide)).trans ((up_ne (by decide)).trans ((up_ne (by decide)).trans (hz 32 (by decide))))))))) hfs5 (Nat.le_of_ble_eq_true rfl) (Nat.le_of_ble_eq_true rfl) ?_
  refine r_dup dX2_init_42 rfl ?_
  refine r_callI (tX5_init_32 G s8 (fun q hq => (h8.1 q (by omega) (by omega)).trans ((h6.1 q (by omega) (by omega)).trans ((h4.1 q (by omega) (by omega)).trans ((h2.1 q (by omega) (by omega)).trans ((up_ne (by omega)).trans ((up_ne (by omega)).trans ((up_ne (by omega)).trans (hz q (by omega)))))))))) dX2_init_43 svX5_init q114 rfl ⟨Nat.le_of_ble_eq_true rfl, Nat.le_of_ble_eq_true rfl⟩ (Nat.le_of_ble_eq_true rfl) ⟨Nat.le_of_ble_eq_true rfl, Nat.le_of_ble_eq_true rfl⟩ ?_
  rintro _ s10 ⟨rfl, h10⟩
  refine r_aastn (sh2 := ms81) (g2 := gsv5) dX2_init_46 (a := 19) rfl rfl (by omega) rfl rfl ?_
  refine r_iinc (lv' := [(0, Rf G 18), (1, I (0 + 1 + 1 + 1 + 1 + 1))]) dX2_init_47 (Nat.le_of_ble_eq_true rfl) rfl rfl ?_
  refine r_goto (tgt := 25) dX2_init_50 (by decide) ?_
  refine r_iload_n dX2_init_25 rfl rfl ?_
  refine r_aload_n dX2_init_26 rfl rfl ?_
  refine r_getR (b := 19) dX2_init_27 rfl rfl (ci := 2) (j := 2) rfl (Nat.le_of_ble_eq_true rfl) ixX2 q118 rfl ?_
  refine r_alenq dX2_init_30 (a := 19) rfl ?_
  refine r_icmp_ge (tgt := 53) dX2_init_31 (by decide) (by omega) (fun hb11 => ?_) (fun hb11 => ?_)
  · exact absurd hb11 (by omega)
  refine r_aload_n dX2_init_34 rfl rfl ?_
  refine r_getR (b := 19) dX2_init_35 rfl rfl (ci := 2) (j := 2) rfl (Nat.le_of_ble_eq_true rfl) ixX2 q118 rfl ?_
  refine r_iload_n dX2_init_38 rfl rfl ?_
  refine r_new (ci := 5) (N := 8) (sh2 := ms82) tyX5 dX2_init_39 q113 q25 q2 rfl tyX5_ok ixX5 (a := 35) rfl rfl ((h10.1 35 (by decide) (by decide)).trans ((h8.1 35 (by decide) (by decide)).trans ((h6.1 35 (by decide) (by decide)).trans ((h4.1 35 (by decide) (by decide)).trans ((h2.1 35 (by decide) (by decide)).trans ((up_ne (by decide)).trans ((up_ne (by decide)).trans ((up_ne (by decide)).trans (hz 35 (by decide)))))))))) hfs5 (Nat.le_of_ble_eq_true rfl) (Nat.le_of_ble_eq_true rfl) ?_
  refine r_dup dX2_init_42 rfl ?_
  refine r_callI (tX5_init_35 G s10 (fun q hq => (h10.1 q (by omega) (by omega)).trans ((h8.1 q (by omega) (by omega)).trans ((h6.1 q (by omega) (by omega)).trans ((h4.1 q (by omega) (by omega)).trans ((h2.1 q (by omega) (by omega)).trans ((up_ne (by omega)).trans ((up_ne (by omega)).trans ((up_ne (by omega)).trans (hz q (by omega))))))))))) dX2_init_43 svX5_init q114 rfl ⟨Nat.le_of_ble_eq_true rfl, Nat.le_of_ble_eq_true rfl⟩ (Nat.le_of_ble_eq_true rfl) ⟨Nat.le_of_ble_eq_true rfl, Nat.le_of_ble_eq_true rfl⟩ ?_
  rintro _ s12 ⟨rfl, h12⟩
  refine r_aastn (sh2 := ms88) (g2 := gsv6) dX2_init_46 (a := 19) rfl rfl (by omega) rfl rfl ?_
  refine r_iinc (lv' := [(0, Rf G 18), (1, I (0 + 1 + 1 + 1 + 1 + 1 + 1))]) dX2_init_47 (Nat.le_of_ble_eq_true rfl) rfl rfl ?_
  refine r_goto (tgt := 25) dX2_init_50 (by decide) ?_
  refine r_iload_n dX2_init_25 rfl rfl ?_
  refine r_aload_n dX2_init_26 rfl rfl ?_
  refine r_getR (b := 19) dX2_init_27 rfl rfl (ci := 2) (j := 2) rfl (Nat.le_of_ble_eq_true rfl) ixX2 q118 rfl ?_
  refine r_alenq dX2_init_30 (a := 19) rfl ?_
  refine r_icmp_ge (tgt := 53) dX2_init_31 (by decide) (by omega) (fun hb13 => ?_) (fun hb13 => ?_)
  rotate_left
  · exact absurd hb13 (by omega)
  refine r_shE (sh2 := ms89) (by rw [show ms88 = [.inl (7, [.inr (some 1), .inr (some 4), .inr (some 5), .inr (some 10), .inr (some 15), .inr none, .inr none, .inr none]), ob1, ob2, ob3, ob4, ob5, ob6, ob7, ob8, ob9, ob10, ob11, ob12, ob13, ob14, ob15, ob16, ob17, ob18, .inr (.inr (.inr (6, gsv6))), ob20, ob21, ob22, ob23, ob24, ob25, ob26, ob27, ob28, ob29, ob30, ob31, ob32, ob33, ob34, ob35, ob36, ob37] from rfl, gsv_is]; rfl) ?_
  exact r_vret dX2_init_53 rfl (by rw [hP]; exact ⟨rfl, fun q h => by rw [h12.1 q (by omega) (by omega), h10.1 q (by omega) (by omega), h8.1 q (by omega) (by omega), h6.1 q (by omega) (by omega), h4.1 q (by omega) (by omega), h2.1 q (by omega) (by omega), up_ne (by omega), up_ne (by omega), up_ne (by omega)], by rw [h12.1 18 (by decide) (by decide)]; rw [h10.1 18 (by decide) (by decide)]; rw [h8.1 18 (by decide) (by decide)]; rw [h6.1 18 (by decide) (by decide)]; rw [h4.1 18 (by decide) (by decide)]; rw [h2.1 18 (by decide) (by decide)]; rw [up_nj (by decide)]; rw [up_nj (by decide)]; rw [up_eq], by rw [h12.1 18 (by decide) (by decide)]; rw [h10.1 18 (by decide) (by decide)]; rw [h8.1 18 (by decide) (by decide)]; rw [h6.1 18 (by decide) (by decide)]; rw [h4.1 18 (by decide) (by decide)]; rw [h2.1 18 (by decide) (by decide)]; rw [up_nj (by decide)]; rw [up_eq]⟩)
set_option maxHeartbeats 1000000 in
set_option maxRecDepth 100000 in
theorem tX5_init_39 (G : GT) (σ : Sg) (hz : ∀ q, 39 ≤ q → σ q = fun _ => 0) : Ct G mX5_init 2 2 110 true ms94 ms98 [Rf G 39] σ (fun rv sv => none = rv ∧ InS σ sv 39) := by
  obtain ⟨P, hP⟩ : ∃ P : Option Value → Sg → Prop, P = (fun rv sv => none = rv ∧ InS σ sv 39) := ⟨_, rfl⟩
  rw [← hP]
  refine ct_of (lv := [(0, Rf G 39)]) (by decide +kernel) (Nat.le_of_ble_eq_true rfl) rfl ?_
  refine r_aload_n dX5_init_0 rfl rfl ?_
  refine r_objInit dX5_init_1 q29 (Nat.le_of_ble_eq_true rfl) (Nat.le_of_ble_eq_true rfl) ?_
  refine r_aload_n dX5_init_4 rfl rfl ?_
  refine r_iconst dX5_init_5 ?_
  refine r_putI (z := 0) tyX5 dX5_init_6 rfl rfl (ci := 5) (j := 0) rfl (Nat.le_of_ble_eq_true rfl) rfl tyX5_ok nmX5 ixX5 q33 rfl rfl rfl ?_
  refine r_aload_n dX5_init_9 rfl rfl ?_
  refine r_iconst dX5_init_10 ?_
  refine r_putI (z := 1) tyX5 dX5_init_11 rfl rfl (ci := 5) (j := 1) rfl (Nat.le_of_ble_eq_true rfl) rfl tyX5_ok nmX5 ixX5 q37 rfl rfl rfl ?_
  refine r_aload_n dX5_init_14 rfl rfl ?_
  refine r_iconst dX5_init_15 ?_
  refine r_putI (z := 2) tyX5 dX5_init_16 rfl rfl (ci := 5) (j := 2) rfl (Nat.le_of_ble_eq_true rfl) rfl tyX5_ok nmX5 ixX5 q41 rfl rfl rfl ?_
  refine r_aload_n dX5_init_19 rfl rfl ?_
  refine r_iconst dX5_init_20 ?_
  refine r_putI (z := 3) tyX5 dX5_init_21 rfl rfl (ci := 5) (j := 3) rfl (Nat.le_of_ble_eq_true rfl) rfl tyX5_ok nmX5 ixX5 q44 rfl rfl rfl ?_
  refine r_aload_n dX5_init_24 rfl rfl ?_
  refine r_iconst dX5_init_25 ?_
  refine r_putI (z := 4) tyX5 dX5_init_26 rfl rfl (ci := 5) (j := 4) rfl (Nat.le_of_ble_eq_true rfl) rfl tyX5_ok nmX5 ixX5 q46 rfl rfl rfl ?_
  refine r_aload_n dX5_init_29 rfl rfl ?_
  refine r_iconst dX5_init_30 ?_
  refine r_putI (z := 5) tyX5 dX5_init_31 rfl rfl (ci := 5) (j := 5) rfl (Nat.le_of_ble_eq_true rfl) rfl tyX5_ok nmX5 ixX5 q48 rfl rfl rfl ?_
  refine r_aload_n dX5_init_34 rfl rfl ?_
  refine r_bipush dX5_init_35 rfl ?_
  refine r_newi (N := 100) (sh2 := ms95) dX5_init_37 rfl (Nat.le_of_ble_eq_true rfl) (a := 40) rfl rfl ((up_ne (by decide)).trans ((up_ne (by decide)).trans ((up_ne (by decide)).trans ((up_ne (by decide)).trans ((up_ne (by decide)).trans ((up_ne (by decide)).trans (hz 40 (by decide)))))))) (Nat.le_of_ble_eq_true rfl) (Nat.le_of_ble_eq_true rfl) ?_
  refine r_putRF tyX5 dX5_init_39 rfl rfl (ci := 5) (j := 6) rfl (Nat.le_of_ble_eq_true rfl) tyX5_ok nmX5 ixX5 q50 rfl rfl rfl rfl rfl rfl rfl ?_
  refine r_shE (sh2 := ms96) rfl ?_
  refine r_aload_n dX5_init_42 rfl rfl ?_
  refine r_bipush dX5_init_43 rfl ?_
  refine r_newi (N := 10) (sh2 := ms97) dX5_init_45 rfl (Nat.le_of_ble_eq_true rfl) (a := 41) rfl rfl ((up_ne (by decide)).trans ((up_ne (by decide)).trans ((up_ne (by decide)).trans ((up_ne (by decide)).trans ((up_ne (by decide)).trans ((up_ne (by decide)).trans ((up_ne (by decide)).trans (hz 41 (by decide))))))))) (Nat.le_of_ble_eq_true rfl) (Nat.le_of_ble_eq_true rfl) ?_
  refine r_putRF tyX5 dX5_init_47 rfl rfl (ci := 5) (j := 7) rfl (Nat.le_of_ble_eq_true rfl) tyX5_ok nmX5 ixX5 q51 rfl rfl rfl rfl rfl rfl rfl ?_
  refine r_shE (sh2 := ms98) rfl ?_
  refine r_aload_n dX5_init_50 rfl rfl ?_
  refine r_getR (b := 41) dX5_init_51 rfl rfl (ci := 5) (j := 7) rfl (Nat.le_of_ble_eq_true rfl) ixX5 q51 rfl ?_
  refine r_iconst dX5_init_54 ?_
  refine r_iconst dX5_init_55 ?_
  refine r_callSN (tX7_setInN G (up (up (up (up (up (up (up (up σ 39 0 4) 39 1 4) 39 2 1) 39 3 0) 39 4 0) 39 5 0) 39 6 0) 39 7 0) 41 0 1 10 rfl (by omega)) dX5_init_56 svX7_setIn nw0 rfl ⟨Nat.le_of_ble_eq_true rfl, Nat.le_of_ble_eq_true rfl⟩ (Nat.le_of_ble_eq_true rfl) ⟨Nat.le_of_ble_eq_true rfl, Nat.le_of_ble_eq_true rfl⟩ ?_
  rintro _ _ ⟨rfl, rfl⟩
  exact r_vret dX5_init_59 rfl (by rw [hP]; exact ⟨rfl, fun q h h2 => by rw [up_ne (by omega), up_ne (by omega), up_ne (by omega), up_ne (by omega), up_ne (by omega), up_ne (by omega), up_ne (by omega), up_ne (by omega), up_ne (by omega)], by simp [up, hz 39 (by decide)], by simp [up], fun j hj => by simp [up, hj, hz 41 (by decide)]⟩)
set_option maxHeartbeats 1000000 in
set_option maxRecDepth 100000 in
theorem tX4_init_38 (G : GT) (σ : Sg) (hz : ∀ q, 38 ≤ q → σ q = fun _ => 0) : Ct G mX4_init 3 3 118 true ms92 ms99 [Rf G 38] σ (fun rv sv => none = rv ∧ InO σ sv 38) := by
  obtain ⟨P, hP⟩ : ∃ P : Option Value → Sg → Prop, P = (fun rv sv => none = rv ∧ InO σ sv 38) := ⟨_, rfl⟩
  rw [← hP]
  refine ct_of (lv := [(0, Rf G 38)]) (by decide +kernel) (Nat.le_of_ble_eq_true rfl) rfl ?_
  refine r_aload_n dX4_init_0 rfl rfl ?_
  refine r_objInit dX4_init_1 q124 (Nat.le_of_ble_eq_true rfl) (Nat.le_of_ble_eq_true rfl) ?_
  refine r_aload_n dX4_init_4 rfl rfl ?_
  refine r_iconst dX4_init_5 ?_
  refine r_putZ (z := 0) tyX4 dX4_init_6 rfl rfl (ci := 4) (j := 0) rfl (Nat.le_of_ble_eq_true rfl) rfl tyX4_ok nmX4 ixX4 q127 rfl rfl rfl rfl rfl ?_
  refine r_aload_n dX4_init_9 rfl rfl ?_
  refine r_new (ci := 5) (N := 8) (sh2 := ms93) tyX5 dX4_init_10 q125 q25 q2 rfl tyX5_ok ixX5 (a := 39) rfl rfl ((up_ne (by decide)).trans (hz 39 (by decide))) hfs5 (Nat.le_of_ble_eq_true rfl) (Nat.le_of_ble_eq_true rfl) ?_
  refine r_dup dX4_init_13 rfl ?_
  refine r_callI (tX5_init_39 G (up σ 38 0 0) (fun q hq => (up_ne (by omega)).trans (hz q (by omega)))) dX4_init_14 svX5_init q126 rfl ⟨Nat.le_of_ble_eq_true rfl, Nat.le_of_ble_eq_true rfl⟩ (Nat.le_of_ble_eq_true rfl) ⟨Nat.le_of_ble_eq_true rfl, Nat.le_of_ble_eq_true rfl⟩ ?_
  rintro _ s1 ⟨rfl, h1⟩
  refine r_putRF tyX4 dX4_init_17 rfl rfl (ci := 4) (j := 1) rfl (Nat.le_of_ble_eq_true rfl) tyX4_ok nmX4 ixX4 q129 rfl rfl rfl rfl rfl rfl rfl ?_
  refine r_shE (sh2 := ms99) rfl ?_
  exact r_vret dX4_init_20 rfl (by rw [hP]; exact ⟨rfl, fun q h h2 h3 => by rw [up_ne (by omega), h1.1 q (by omega) (by omega), up_ne (by omega)], by rw [up_nj (by decide)]; rw [h1.1 38 (by decide) (by decide)]; rw [up_eq]⟩)
set_option maxHeartbeats 1000000 in
set_option maxRecDepth 100000 in
theorem tX5_init_43 (G : GT) (σ : Sg) (hz : ∀ q, 43 ≤ q → σ q = fun _ => 0) : Ct G mX5_init 2 2 110 true ms104 ms108 [Rf G 43] σ (fun rv sv => none = rv ∧ InS σ sv 43) := by
  obtain ⟨P, hP⟩ : ∃ P : Option Value → Sg → Prop, P = (fun rv sv => none = rv ∧ InS σ sv 43) := ⟨_, rfl⟩
  rw [← hP]
  refine ct_of (lv := [(0, Rf G 43)]) (by decide +kernel) (Nat.le_of_ble_eq_true rfl) rfl ?_
  refine r_aload_n dX5_init_0 rfl rfl ?_
  refine r_objInit dX5_init_1 q29 (Nat.le_of_ble_eq_true rfl) (Nat.le_of_ble_eq_true rfl) ?_
  refine r_aload_n dX5_init_4 rfl rfl ?_
  refine r_iconst dX5_init_5 ?_
  refine r_putI (z := 0) tyX5 dX5_init_6 rfl rfl (ci := 5) (j := 0) rfl (Nat.le_of_ble_eq_true rfl) rfl tyX5_ok nmX5 ixX5 q33 rfl rfl rfl ?_
  refine r_aload_n dX5_init_9 rfl rfl ?_
  refine r_iconst dX5_init_10 ?_
  refine r_putI (z := 1) tyX5 dX5_init_11 rfl rfl (ci := 5) (j := 1) rfl (Nat.le_of_ble_eq_true rfl) rfl tyX5_ok nmX5 ixX5 q37 rfl rfl rfl ?_
  refine r_aload_n dX5_init_14 rfl rfl ?_
  refine r_iconst dX5_init_15 ?_
  refine r_putI (z := 2) tyX5 dX5_init_16 rfl rfl (ci := 5) (j := 2) rfl (Nat.le_of_ble_eq_true rfl) rfl tyX5_ok nmX5 ixX5 q41 rfl rfl rfl ?_
  refine r_aload_n dX5_init_19 rfl rfl ?_
  refine r_iconst dX5_init_20 ?_
  refine r_putI (z := 3) tyX5 dX5_init_21 rfl rfl (ci := 5) (j := 3) rfl (Nat.le_of_ble_eq_true rfl) rfl tyX5_ok nmX5 ixX5 q44 rfl rfl rfl ?_
  refine r_aload_n dX5_init_24 rfl rfl ?_
  refine r_iconst dX5_init_25 ?_
  refine r_putI (z := 4) tyX5 dX5_init_26 rfl rfl (ci := 5) (j := 4) rfl (Nat.le_of_ble_eq_true rfl) rfl tyX5_ok nmX5 ixX5 q46 rfl rfl rfl ?_
  refine r_aload_n dX5_init_29 rfl rfl ?_
  refine r_iconst dX5_init_30 ?_
  refine r_putI (z := 5) tyX5 dX5_init_31 rfl rfl (ci := 5) (j := 5) rfl (Nat.le_of_ble_eq_true rfl) rfl tyX5_ok nmX5 ixX5 q48 rfl rfl rfl ?_
  refine r_aload_n dX5_init_34 rfl rfl ?_
  refine r_bipush dX5_init_35 rfl ?_
  refine r_newi (N := 100) (sh2 := ms105) dX5_init_37 rfl (Nat.le_of_ble_eq_true rfl) (a := 44) rfl rfl ((up_ne (by decide)).trans ((up_ne (by decide)).trans ((up_ne (by decide)).trans ((up_ne (by decide)).trans ((up_ne (by decide)).trans ((up_ne (by decide)).trans (hz 44 (by decide)))))))) (Nat.le_of_ble_eq_true rfl) (Nat.le_of_ble_eq_true rfl) ?_
  refine r_putRF tyX5 dX5_init_39 rfl rfl (ci := 5) (j := 6) rfl (Nat.le_of_ble_eq_true rfl) tyX5_ok nmX5 ixX5 q50 rfl rfl rfl rfl rfl rfl rfl ?_
  refine r_shE (sh2 := ms106) rfl ?_
  refine r_aload_n dX5_init_42 rfl rfl ?_
  refine r_bipush dX5_init_43 rfl ?_
  refine r_newi (N := 10) (sh2 := ms107) dX5_init_45 rfl (Nat.le_of_ble_eq_true rfl) (a := 45) rfl rfl ((up_ne (by decide)).trans ((up_ne (by decide)).trans ((up_ne (by decide)).trans ((up_ne (by decide)).trans ((up_ne (by decide)).trans ((up_ne (by decide)).trans ((up_ne (by decide)).trans (hz 45 (by decide))))))))) (Nat.le_of_ble_eq_true rfl) (Nat.le_of_ble_eq_true rfl) ?_
  refine r_putRF tyX5 dX5_init_47 rfl rfl (ci := 5) (j := 7) rfl (Nat.le_of_ble_eq_true rfl) tyX5_ok nmX5 ixX5 q51 rfl rfl rfl rfl rfl rfl rfl ?_
  refine r_shE (sh2 := ms108) rfl ?_
  refine r_aload_n dX5_init_50 rfl rfl ?_
  refine r_getR (b := 45) dX5_init_51 rfl rfl (ci := 5) (j := 7) rfl (Nat.le_of_ble_eq_true rfl) ixX5 q51 rfl ?_
  refine r_iconst dX5_init_54 ?_
  refine r_iconst dX5_init_55 ?_
  refine r_callSN (tX7_setInN G (up (up (up (up (up (up (up (up σ 43 0 4) 43 1 4) 43 2 1) 43 3 0) 43 4 0) 43 5 0) 43 6 0) 43 7 0) 45 0 1 10 rfl (by omega)) dX5_init_56 svX7_setIn nw0 rfl ⟨Nat.le_of_ble_eq_true rfl, Nat.le_of_ble_eq_true rfl⟩ (Nat.le_of_ble_eq_true rfl) ⟨Nat.le_of_ble_eq_true rfl, Nat.le_of_ble_eq_true rfl⟩ ?_
  rintro _ _ ⟨rfl, rfl⟩
  exact r_vret dX5_init_59 rfl (by rw [hP]; exact ⟨rfl, fun q h h2 => by rw [up_ne (by omega), up_ne (by omega), up_ne (by omega), up_ne (by omega), up_ne (by omega), up_ne (by omega), up_ne (by omega), up_ne (by omega), up_ne (by omega)], by simp [up, hz 43 (by decide)], by simp [up], fun j hj => by simp [up, hj, hz 45 (by decide)]⟩)
set_option maxHeartbeats 1000000 in
set_option maxRecDepth 100000 in
theorem tX4_init_42 (G : GT) (σ : Sg) (hz : ∀ q, 42 ≤ q → σ q = fun _ => 0) : Ct G mX4_init 3 3 118 true ms102 ms109 [Rf G 42] σ (fun rv sv => none = rv ∧ InO σ sv 42) := by
  obtain ⟨P, hP⟩ : ∃ P : Option Value → Sg → Prop, P = (fun rv sv => none = rv ∧ InO σ sv 42) := ⟨_, rfl⟩
  rw [← hP]
  refine ct_of (lv := [(0, Rf G 42)]) (by decide +kernel) (Nat.le_of_ble_eq_true rfl) rfl ?_
  refine r_aload_n dX4_init_0 rfl rfl ?_
  refine r_objInit dX4_init_1 q124 (Nat.le_of_ble_eq_true rfl) (Nat.le_of_ble_eq_true rfl) ?_
  refine r_aload_n dX4_init_4 rfl rfl ?_
  refine r_iconst dX4_init_5 ?_
  refine r_putZ (z := 0) tyX4 dX4_init_6 rfl rfl (ci := 4) (j := 0) rfl (Nat.le_of_ble_eq_true rfl) rfl tyX4_ok nmX4 ixX4 q127 rfl rfl rfl rfl rfl ?_
  refine r_aload_n dX4_init_9 rfl rfl ?_
  refine r_new (ci := 5) (N := 8) (sh2 := ms103) tyX5 dX4_init_10 q125 q25 q2 rfl tyX5_ok ixX5 (a := 43) rfl rfl ((up_ne (by decide)).trans (hz 43 (by decide))) hfs5 (Nat.le_of_ble_eq_true rfl) (Nat.le_of_ble_eq_true rfl) ?_
  refine r_dup dX4_init_13 rfl ?_
  refine r_callI (tX5_init_43 G (up σ 42 0 0) (fun q hq => (up_ne (by omega)).trans (hz q (by omega)))) dX4_init_14 svX5_init q126 rfl ⟨Nat.le_of_ble_eq_true rfl, Nat.le_of_ble_eq_true rfl⟩ (Nat.le_of_ble_eq_true rfl) ⟨Nat.le_of_ble_eq_true rfl, Nat.le_of_ble_eq_true rfl⟩ ?_
  rintro _ s1 ⟨rfl, h1⟩
  refine r_putRF tyX4 dX4_init_17 rfl rfl (ci := 4) (j := 1) rfl (Nat.le_of_ble_eq_true rfl) tyX4_ok nmX4 ixX4 q129 rfl rfl rfl rfl rfl rfl rfl ?_
  refine r_shE (sh2 := ms109) rfl ?_
  exact r_vret dX4_init_20 rfl (by rw [hP]; exact ⟨rfl, fun q h h2 h3 => by rw [up_ne (by omega), h1.1 q (by omega) (by omega), up_ne (by omega)], by rw [up_nj (by decide)]; rw [h1.1 42 (by decide) (by decide)]; rw [up_eq]⟩)
set_option maxHeartbeats 1000000 in
set_option maxRecDepth 100000 in
theorem tX7_init_0 (G : GT) (σ : Sg) (hz : ∀ q, 0 ≤ q → σ q = fun _ => 0) : CtN G mX7_init 4 45 1612 ms0 ms110 [Rf G 0] σ (fun rv sv => none = rv ∧ InC sv) := by
  obtain ⟨P, hP⟩ : ∃ P : Option Value → Sg → Prop, P = (fun rv sv => none = rv ∧ InC sv) := ⟨_, rfl⟩
  rw [← hP]
  refine ctn_of (lv := [(0, Rf G 0)]) (by decide +kernel) (Nat.le_of_ble_eq_true rfl) rfl ?_
  refine r_aload_n dX7_init_0 rfl rfl ?_
  refine r_objInit dX7_init_1 q21 (Nat.le_of_ble_eq_true rfl) (Nat.le_of_ble_eq_true rfl) ?_
  refine r_aload_n dX7_init_4 rfl rfl ?_
  refine r_new (ci := 5) (N := 8) (sh2 := ms1) tyX5 dX7_init_5 q24 q25 q2 rfl tyX5_ok ixX5 (a := 1) rfl rfl (hz 1 (by decide)) hfs5 (Nat.le_of_ble_eq_true rfl) (Nat.le_of_ble_eq_true rfl) ?_
  refine r_dup dX7_init_8 rfl ?_
  refine r_callI (tX5_init_1 G σ (fun q hq => hz q (by omega))) dX7_init_9 svX5_init q26 rfl ⟨Nat.le_of_ble_eq_true rfl, Nat.le_of_ble_eq_true rfl⟩ (Nat.le_of_ble_eq_true rfl) ⟨Nat.le_of_ble_eq_true rfl, Nat.le_of_ble_eq_true rfl⟩ ?_
  rintro _ s1 ⟨rfl, h1⟩
  refine r_putRF tyX7 dX7_init_12 rfl rfl (ci := 7) (j := 0) rfl (Nat.le_of_ble_eq_true rfl) tyX7_ok nmX7 ixX7 q131 rfl rfl rfl rfl rfl rfl rfl ?_
  refine r_shE (sh2 := ms7) rfl ?_
  refine r_aload_n dX7_init_15 rfl rfl ?_
  refine r_new (ci := 3) (N := 5) (sh2 := ms8) tyX3 dX7_init_16 q53 q54 q3 rfl tyX3_ok ixX3 (a := 4) rfl rfl ((up_ne (by decide)).trans ((h1.1 4 (by decide) (by decide)).trans (hz 4 (by decide)))) hfs3 (Nat.le_of_ble_eq_true rfl) (Nat.le_of_ble_eq_true rfl) ?_
  refine r_dup dX7_init_19 rfl ?_
  refine r_aload_n dX7_init_20 rfl rfl ?_
  refine r_getR (b := 1) dX7_init_21 rfl rfl (ci := 7) (j := 0) rfl (Nat.le_of_ble_eq_true rfl) ixX7 q131 rfl ?_
  refine r_callI (tX3_init_4 G (up s1 0 0 0) (fun q hq => (up_ne (by omega)).trans ((h1.1 q (by omega) (by omega)).trans (hz q (by omega))))) dX7_init_24 svX3_init q55 rfl ⟨Nat.le_of_ble_eq_true rfl, Nat.le_of_ble_eq_true rfl⟩ (Nat.le_of_ble_eq_true rfl) ⟨Nat.le_of_ble_eq_true rfl, Nat.le_of_ble_eq_true rfl⟩ ?_
  rintro _ s2 ⟨rfl, h2⟩
  refine r_putRF tyX7 dX7_init_27 rfl rfl (ci := 7) (j := 1) rfl (Nat.le_of_ble_eq_true rfl) tyX7_ok nmX7 ixX7 q132 rfl rfl rfl rfl rfl rfl rfl ?_
  refine r_shE (sh2 := ms11) rfl ?_
  refine r_aload_n dX7_init_30 rfl rfl ?_
  refine r_new (ci := 1) (N := 7) (sh2 := ms12) tyX1 dX7_init_31 q68 q69 q4 rfl tyX1_ok ixX1 (a := 5) rfl rfl ((up_ne (by decide)).trans ((h2 5 (by decide)).trans ((up_ne (by decide)).trans ((h1.1 5 (by decide) (by decide)).trans (hz 5 (by decide)))))) hfs1 (Nat.le_of_ble_eq_true rfl) (Nat.le_of_ble_eq_true rfl) ?_
  refine r_dup dX7_init_34 rfl ?_
  refine r_aload_n dX7_init_35 rfl rfl ?_
  refine r_getR (b := 1) dX7_init_36 rfl rfl (ci := 7) (j := 0) rfl (Nat.le_of_ble_eq_true rfl) ixX7 q131 rfl ?_
  refine r_callI (tX1_init_5 G (up s2 0 1 0) (fun q hq => (up_ne (by omega)).trans ((h2 q (by omega)).trans ((up_ne (by omega)).trans ((h1.1 q (by omega) (by omega)).trans (hz q (by omega))))))) dX7_init_39 svX1_init q70 rfl ⟨Nat.le_of_ble_eq_true rfl, Nat.le_of_ble_eq_true rfl⟩ (Nat.le_of_ble_eq_true rfl) ⟨Nat.le_of_ble_eq_true rfl, Nat.le_of_ble_eq_true rfl⟩ ?_
  rintro _ s3 ⟨rfl, h3⟩
  refine r_putRF tyX7 dX7_init_42 rfl rfl (ci := 7) (j := 2) rfl (Nat.le_of_ble_eq_true rfl) tyX7_ok nmX7 ixX7 q133 rfl rfl rfl rfl rfl rfl rfl ?_
  refine r_shE (sh2 := ms23) rfl ?_
  refine r_aload_n dX7_init_45 rfl rfl ?_
  refine r_new (ci := 0) (N := 5) (sh2 := ms24) tyX0 dX7_init_46 q81 q82 q5 rfl tyX0_ok ixX0 (a := 10) rfl rfl ((up_ne (by decide)).trans ((h3 10 (by decide)).trans ((up_ne (by decide)).trans ((h2 10 (by decide)).trans ((up_ne (by decide)).trans ((h1.1 10 (by decide) (by decide)).trans (hz 10 (by decide)))))))) hfs0 (Nat.le_of_ble_eq_true rfl) (Nat.le_of_ble_eq_true rfl) ?_
  refine r_dup dX7_init_49 rfl ?_
  refine r_aload_n dX7_init_50 rfl rfl ?_
  refine r_getR (b := 1) dX7_init_51 rfl rfl (ci := 7) (j := 0) rfl (Nat.le_of_ble_eq_true rfl) ixX7 q131 rfl ?_
  refine r_callI (tX0_init_10 G (up s3 0 2 0) (fun q hq => (up_ne (by omega)).trans ((h3 q (by omega)).trans ((up_ne (by omega)).trans ((h2 q (by omega)).trans ((up_ne (by omega)).trans ((h1.1 q (by omega) (by omega)).trans (hz q (by omega))))))))) dX7_init_54 svX0_init q83 rfl ⟨Nat.le_of_ble_eq_true rfl, Nat.le_of_ble_eq_true rfl⟩ (Nat.le_of_ble_eq_true rfl) ⟨Nat.le_of_ble_eq_true rfl, Nat.le_of_ble_eq_true rfl⟩ ?_
  rintro _ s4 ⟨rfl, h4⟩
  refine r_putRF tyX7 dX7_init_57 rfl rfl (ci := 7) (j := 3) rfl (Nat.le_of_ble_eq_true rfl) tyX7_ok nmX7 ixX7 q134 rfl rfl rfl rfl rfl rfl rfl ?_
  refine r_shE (sh2 := ms35) rfl ?_
  refine r_aload_n dX7_init_60 rfl rfl ?_
  refine r_new (ci := 6) (N := 8) (sh2 := ms36) tyX6 dX7_init_61 q92 q93 q6 rfl tyX6_ok ixX6 (a := 15) rfl rfl ((up_ne (by decide)).trans ((h4 15 (by decide)).trans ((up_ne (by decide)).trans ((h3 15 (by decide)).trans ((up_ne (by decide)).trans ((h2 15 (by decide)).trans ((up_ne (by decide)).trans ((h1.1 15 (by decide) (by decide)).trans (hz 15 (by decide)))))))))) hfs6 (Nat.le_of_ble_eq_true rfl) (Nat.le_of_ble_eq_true rfl) ?_
  refine r_dup dX7_init_64 rfl ?_
  refine r_callIN (tX6_init_15 G (up s4 0 3 0) (fun q hq => (up_ne (by omega)).trans ((h4 q (by omega)).trans ((up_ne (by omega)).trans ((h3 q (by omega)).trans ((up_ne (by omega)).trans ((h2 q (by omega)).trans ((up_ne (by omega)).trans ((h1.1 q (by omega) (by omega)).trans (hz q (by omega))))))))))) dX7_init_65 svX6_init nw1 rfl ⟨Nat.le_of_ble_eq_true rfl, Nat.le_of_ble_eq_true rfl⟩ (Nat.le_of_ble_eq_true rfl) ⟨Nat.le_of_ble_eq_true rfl, Nat.le_of_ble_eq_true rfl⟩ ?_
  rintro _ s5 ⟨rfl, h5⟩
  refine r_putRF tyX7 dX7_init_68 rfl rfl (ci := 7) (j := 4) rfl (Nat.le_of_ble_eq_true rfl) tyX7_ok nmX7 ixX7 q135 rfl rfl rfl rfl rfl rfl rfl ?_
  refine r_shE (sh2 := ms42) rfl ?_
  refine r_aload_n dX7_init_71 rfl rfl ?_
  refine r_new (ci := 2) (N := 3) (sh2 := ms43) tyX2 dX7_init_72 q107 q108 q7 rfl tyX2_ok ixX2 (a := 18) rfl rfl ((up_ne (by decide)).trans ((h5.1 18 (by decide)).trans ((up_ne (by decide)).trans ((h4 18 (by decide)).trans ((up_ne (by decide)).trans ((h3 18 (by decide)).trans ((up_ne (by decide)).trans ((h2 18 (by decide)).trans ((up_ne (by decide)).trans ((h1.1 18 (by decide) (by decide)).trans (hz 18 (by decide)))))))))))) hfs2 (Nat.le_of_ble_eq_true rfl) (Nat.le_of_ble_eq_true rfl) ?_
  refine r_dup dX7_init_75 rfl ?_
  refine r_callA EA_ok (tX2_init_18 G (up s5 0 4 0) (fun q hq => (up_ne (by omega)).trans ((h5.1 q (by omega)).trans ((up_ne (by omega)).trans ((h4 q (by omega)).trans ((up_ne (by omega)).trans ((h3 q (by omega)).trans ((up_ne (by omega)).trans ((h2 q (by omega)).trans ((up_ne (by omega)).trans ((h1.1 q (by omega) (by omega)).trans (hz q (by omega))))))))))))) dX7_init_76 svX2_init q109 rfl ⟨Nat.le_of_ble_eq_true rfl, Nat.le_of_ble_eq_true rfl⟩ (Nat.le_of_ble_eq_true rfl) ⟨Nat.le_of_ble_eq_true rfl, Nat.le_of_ble_eq_true rfl⟩ ?_
  rintro _ s6 ⟨rfl, h6⟩
  refine r_putRF tyX7 dX7_init_79 rfl rfl (ci := 7) (j := 5) rfl (Nat.le_of_ble_eq_true rfl) tyX7_ok nmX7 ixX7 q136 rfl rfl rfl rfl rfl rfl rfl ?_
  refine r_shE (sh2 := ms90) rfl ?_
  refine r_aload_n dX7_init_82 rfl rfl ?_
  refine r_new (ci := 4) (N := 2) (sh2 := ms91) tyX4 dX7_init_83 q119 q120 q8 rfl tyX4_ok ixX4 (a := 38) rfl rfl ((up_ne (by decide)).trans ((h6.1 38 (by decide)).trans ((up_ne (by decide)).trans ((h5.1 38 (by decide)).trans ((up_ne (by decide)).trans ((h4 38 (by decide)).trans ((up_ne (by decide)).trans ((h3 38 (by decide)).trans ((up_ne (by decide)).trans ((h2 38 (by decide)).trans ((up_ne (by decide)).trans ((h1.1 38 (by decide) (by decide)).trans (hz 38 (by decide)))))))))))))) hfs4 (Nat.le_of_ble_eq_true rfl) (Nat.le_of_ble_eq_true rfl) ?_
  refine r_dup dX7_init_86 rfl ?_
  refine r_callIN (tX4_init_38 G (up s6 0 5 0) (fun q hq => (up_ne (by omega)).trans ((h6.1 q (by omega)).trans ((up_ne (by omega)).trans ((h5.1 q (by omega)).trans ((up_ne (by omega)).trans ((h4 q (by omega)).trans ((up_ne (by omega)).trans ((h3 q (by omega)).trans ((up_ne (by omega)).trans ((h2 q (by omega)).trans ((up_ne (by omega)).trans ((h1.1 q (by omega) (by omega)).trans (hz q (by omega))))))))))))))) dX7_init_87 svX4_init nw2 rfl ⟨Nat.le_of_ble_eq_true rfl, Nat.le_of_ble_eq_true rfl⟩ (Nat.le_of_ble_eq_true rfl) ⟨Nat.le_of_ble_eq_true rfl, Nat.le_of_ble_eq_true rfl⟩ ?_
  rintro _ s7 ⟨rfl, h7⟩
  refine r_putRF tyX7 dX7_init_90 rfl rfl (ci := 7) (j := 6) rfl (Nat.le_of_ble_eq_true rfl) tyX7_ok nmX7 ixX7 q137 rfl rfl rfl rfl rfl rfl rfl ?_
  refine r_shE (sh2 := ms100) rfl ?_
  refine r_aload_n dX7_init_93 rfl rfl ?_
  refine r_new (ci := 4) (N := 2) (sh2 := ms101) tyX4 dX7_init_94 q119 q120 q8 rfl tyX4_ok ixX4 (a := 42) rfl rfl ((up_ne (by decide)).trans ((h7.1 42 (by decide) (by decide) (by decide)).trans ((up_ne (by decide)).trans ((h6.1 42 (by decide)).trans ((up_ne (by decide)).trans ((h5.1 42 (by decide)).trans ((up_ne (by decide)).trans ((h4 42 (by decide)).trans ((up_ne (by decide)).trans ((h3 42 (by decide)).trans ((up_ne (by decide)).trans ((h2 42 (by decide)).trans ((up_ne (by decide)).trans ((h1.1 42 (by decide) (by decide)).trans (hz 42 (by decide)))))))))))))))) hfs4 (Nat.le_of_ble_eq_true rfl) (Nat.le_of_ble_eq_true rfl) ?_
  refine r_dup dX7_init_97 rfl ?_
  refine r_callIN (tX4_init_42 G (up s7 0 6 0) (fun q hq => (up_ne (by omega)).trans ((h7.1 q (by omega) (by omega) (by omega)).trans ((up_ne (by omega)).trans ((h6.1 q (by omega)).trans ((up_ne (by omega)).trans ((h5.1 q (by omega)).trans ((up_ne (by omega)).trans ((h4 q (by omega)).trans ((up_ne (by omega)).trans ((h3 q (by omega)).trans ((up_ne (by omega)).trans ((h2 q (by omega)).trans ((up_ne (by omega)).trans ((h1.1 q (by omega) (by omega)).trans (hz q (by omega))))))))))))))))) dX7_init_98 svX4_init nw2 rfl ⟨Nat.le_of_ble_eq_true rfl, Nat.le_of_ble_eq_true rfl⟩ (Nat.le_of_ble_eq_true rfl) ⟨Nat.le_of_ble_eq_true rfl, Nat.le_of_ble_eq_true rfl⟩ ?_
  rintro _ s8 ⟨rfl, h8⟩
  refine r_putRF tyX7 dX7_init_101 rfl rfl (ci := 7) (j := 7) rfl (Nat.le_of_ble_eq_true rfl) tyX7_ok nmX7 ixX7 q138 rfl rfl rfl rfl rfl rfl rfl ?_
  refine r_shE (sh2 := ms110) rfl ?_
  exact r_vret dX7_init_104 rfl (by rw [hP]; exact ⟨rfl, fun q hq => (up_ne (by omega)).trans ((h8.1 q (by omega) (by omega) (by omega)).trans ((up_ne (by omega)).trans ((h7.1 q (by omega) (by omega) (by omega)).trans ((up_ne (by omega)).trans ((h6.1 q (by omega)).trans ((up_ne (by omega)).trans ((h5.1 q (by omega)).trans ((up_ne (by omega)).trans ((h4 q (by omega)).trans ((up_ne (by omega)).trans ((h3 q (by omega)).trans ((up_ne (by omega)).trans ((h2 q (by omega)).trans ((up_ne (by omega)).trans ((h1.1 q (by omega) (by omega)).trans (hz q (by omega))))))))))))))))), ⟨(congrFun ((up_ne (by decide)).trans ((h8.1 1 (by decide) (by decide) (by decide)).trans ((up_ne (by decide)).trans ((h7.1 1 (by decide) (by decide) (by decide)).trans ((up_ne (by decide)).trans ((h6.1 1 (by decide)).trans ((up_ne (by decide)).trans ((h5.1 1 (by decide)).trans ((up_ne (by decide)).trans ((h4 1 (by decide)).trans ((up_ne (by decide)).trans ((h3 1 (by decide)).trans ((up_ne (by decide)).trans ((h2 1 (by decide)).trans (up_ne (by decide)))))))))))))))) 0).trans h1.2.1.1, (congrFun ((up_ne (by decide)).trans ((h8.1 1 (by decide) (by decide) (by decide)).trans ((up_ne (by decide)).trans ((h7.1 1 (by decide) (by decide) (by decide)).trans ((up_ne (by decide)).trans ((h6.1 1 (by decide)).trans ((up_ne (by decide)).trans ((h5.1 1 (by decide)).trans ((up_ne (by decide)).trans ((h4 1 (by decide)).trans ((up_ne (by decide)).trans ((h3 1 (by decide)).trans ((up_ne (by decide)).trans ((h2 1 (by decide)).trans (up_ne (by decide)))))))))))))))) 1).trans h1.2.1.2.1, (congrFun ((up_ne (by decide)).trans ((h8.1 1 (by decide) (by decide) (by decide)).trans ((up_ne (by decide)).trans ((h7.1 1 (by decide) (by decide) (by decide)).trans ((up_ne (by decide)).trans ((h6.1 1 (by decide)).trans ((up_ne (by decide)).trans ((h5.1 1 (by decide)).trans ((up_ne (by decide)).trans ((h4 1 (by decide)).trans ((up_ne (by decide)).trans ((h3 1 (by decide)).trans ((up_ne (by decide)).trans ((h2 1 (by decide)).trans (up_ne (by decide)))))))))))))))) 2).trans h1.2.1.2.2.1, (congrFun ((up_ne (by decide)).trans ((h8.1 1 (by decide) (by decide) (by decide)).trans ((up_ne (by decide)).trans ((h7.1 1 (by decide) (by decide) (by decide)).trans ((up_ne (by decide)).trans ((h6.1 1 (by decide)).trans ((up_ne (by decide)).trans ((h5.1 1 (by decide)).trans ((up_ne (by decide)).trans ((h4 1 (by decide)).trans ((up_ne (by decide)).trans ((h3 1 (by decide)).trans ((up_ne (by decide)).trans ((h2 1 (by decide)).trans (up_ne (by decide)))))))))))))))) 3).trans h1.2.1.2.2.2.1, (congrFun ((up_ne (by decide)).trans ((h8.1 1 (by decide) (by decide) (by decide)).trans ((up_ne (by decide)).trans ((h7.1 1 (by decide) (by decide) (by decide)).trans ((up_ne (by decide)).trans ((h6.1 1 (by decide)).trans ((up_ne (by decide)).trans ((h5.1 1 (by decide)).trans ((up_ne (by decide)).trans ((h4 1 (by decide)).trans ((up_ne (by decide)).trans ((h3 1 (by decide)).trans ((up_ne (by decide)).trans ((h2 1 (by decide)).trans (up_ne (by decide)))))))))))))))) 4).trans h1.2.1.2.2.2.2.1, (congrFun ((up_ne (by decide)).trans ((h8.1 1 (by decide) (by decide) (by decide)).trans ((up_ne (by decide)).trans ((h7.1 1 (by decide) (by decide) (by decide)).trans ((up_ne (by decide)).trans ((h6.1 1 (by decide)).trans ((up_ne (by decide)).trans ((h5.1 1 (by decide)).trans ((up_ne (by decide)).trans ((h4 1 (by decide)).trans ((up_ne (by decide)).trans ((h3 1 (by decide)).trans ((up_ne (by decide)).trans ((h2 1 (by decide)).trans (up_ne (by decide)))))))))))))))) 5).trans h1.2.1.2.2.2.2.2⟩, ⟨(congrFun ((up_ne (by decide)).trans ((h8.1 3 (by decide) (by decide) (by decide)).trans ((up_ne (by decide)).trans ((h7.1 3 (by decide) (by decide) (by decide)).trans ((up_ne (by decide)).trans ((h6.1 3 (by decide)).trans ((up_ne (by decide)).trans ((h5.1 3 (by decide)).trans ((up_ne (by decide)).trans ((h4 3 (by decide)).trans ((up_ne (by decide)).trans ((h3 3 (by decide)).trans ((up_ne (by decide)).trans ((h2 3 (by decide)).trans (up_ne (by decide)))))))))))))))) 0).trans h1.2.2.1, fun j hj => (congrFun ((up_ne (by decide)).trans ((h8.1 3 (by decide) (by decide) (by decide)).trans ((up_ne (by decide)).trans ((h7.1 3 (by decide) (by decide) (by decide)).trans ((up_ne (by decide)).trans ((h6.1 3 (by decide)).trans ((up_ne (by decide)).trans ((h5.1 3 (by decide)).trans ((up_ne (by decide)).trans ((h4 3 (by decide)).trans ((up_ne (by decide)).trans ((h3 3 (by decide)).trans ((up_ne (by decide)).trans ((h2 3 (by decide)).trans (up_ne (by decide)))))))))))))))) j).trans (h1.2.2.2 j hj)⟩, ((up_ne (by decide)).trans ((h8.1 2 (by decide) (by decide) (by decide)).trans ((up_ne (by decide)).trans ((h7.1 2 (by decide) (by decide) (by decide)).trans ((up_ne (by decide)).trans ((h6.1 2 (by decide)).trans ((up_ne (by decide)).trans ((h5.1 2 (by decide)).trans ((up_ne (by decide)).trans ((h4 2 (by decide)).trans ((up_ne (by decide)).trans ((h3 2 (by decide)).trans ((up_ne (by decide)).trans ((h2 2 (by decide)).trans ((up_ne (by decide)).trans ((h1.1 2 (by decide) (by decide)).trans (hz 2 (by decide)))))))))))))))))), ((up_ne (by decide)).trans ((h8.1 6 (by decide) (by decide) (by decide)).trans ((up_ne (by decide)).trans ((h7.1 6 (by decide) (by decide) (by decide)).trans ((up_ne (by decide)).trans ((h6.1 6 (by decide)).trans ((up_ne (by decide)).trans ((h5.1 6 (by decide)).trans ((up_ne (by decide)).trans ((h4 6 (by decide)).trans ((up_ne (by decide)).trans ((h3 6 (by decide)).trans ((up_ne (by decide)).trans ((h2 6 (by decide)).trans ((up_ne (by decide)).trans ((h1.1 6 (by decide) (by decide)).trans (hz 6 (by decide)))))))))))))))))), ((up_ne (by decide)).trans ((h8.1 11 (by decide) (by decide) (by decide)).trans ((up_ne (by decide)).trans ((h7.1 11 (by decide) (by decide) (by decide)).trans ((up_ne (by decide)).trans ((h6.1 11 (by decide)).trans ((up_ne (by decide)).trans ((h5.1 11 (by decide)).trans ((up_ne (by decide)).trans ((h4 11 (by decide)).trans ((up_ne (by decide)).trans ((h3 11 (by decide)).trans ((up_ne (by decide)).trans ((h2 11 (by decide)).trans ((up_ne (by decide)).trans ((h1.1 11 (by decide) (by decide)).trans (hz 11 (by decide)))))))))))))))))), ((up_ne (by decide)).trans ((h8.1 13 (by decide) (by decide) (by decide)).trans ((up_ne (by decide)).trans ((h7.1 13 (by decide) (by decide) (by decide)).trans ((up_ne (by decide)).trans ((h6.1 13 (by decide)).trans ((up_ne (by decide)).trans ((h5.1 13 (by decide)).trans ((up_ne (by decide)).trans ((h4 13 (by decide)).trans ((up_ne (by decide)).trans ((h3 13 (by decide)).trans ((up_ne (by decide)).trans ((h2 13 (by decide)).trans ((up_ne (by decide)).trans ((h1.1 13 (by decide) (by decide)).trans (hz 13 (by decide)))))))))))))))))), by rw [up_ne (by decide)]; rw [h8.1 15 (by decide) (by decide) (by decide)]; rw [up_ne (by decide)]; rw [h7.1 15 (by decide) (by decide) (by decide)]; rw [up_ne (by decide)]; rw [h6.1 15 (by decide)]; rw [up_ne (by decide)]; exact h5.2, ⟨by rw [up_ne (by decide)]; rw [h8.1 18 (by decide) (by decide) (by decide)]; rw [up_ne (by decide)]; rw [h7.1 18 (by decide) (by decide) (by decide)]; rw [up_ne (by decide)]; exact h6.2.1, by rw [up_ne (by decide)]; rw [h8.1 18 (by decide) (by decide) (by decide)]; rw [up_ne (by decide)]; rw [h7.1 18 (by decide) (by decide) (by decide)]; rw [up_ne (by decide)]; exact h6.2.2⟩, by rw [up_ne (by decide)]; rw [h8.1 38 (by decide) (by decide) (by decide)]; rw [up_ne (by decide)]; exact h7.2, by rw [up_ne (by decide)]; exact h8.2⟩)
