
/-! throwing -/
abbrev xE1 : String := "java/lang/IllegalArgumentException"
abbrev xE2 : String := "java/lang/IndexOutOfBoundsException"
abbrev xE3 : String := "java/lang/IllegalStateException"
abbrev xnm : List String := ["java/lang/RuntimeException", "java/lang/Exception"]
def XNG : List Cond := (vx_atS RX7 71 xE1 xnm).filter (fun w => !goodWord w) ++ ((vx_atS RX7 96 xE2 xnm).filter (fun w => !goodWord w) ++ (vx_atS RX7 149 xE3 xnm).filter (fun w => !goodWord w))
set_option maxRecDepth 20000 in
theorem xg1 : ∀ w ∈ (vx_atS RX7 71 xE1 xnm).filter goodWord, w ∈ lw_tbl := by decide +kernel
set_option maxRecDepth 20000 in
theorem xg2 : ∀ w ∈ (vx_atS RX7 96 xE2 xnm).filter goodWord, w ∈ lw_tbl := by decide +kernel
set_option maxRecDepth 20000 in
theorem xg3 : ∀ w ∈ (vx_atS RX7 149 xE3 xnm).filter goodWord, w ∈ lw_tbl := by decide +kernel
set_option maxRecDepth 20000 in
theorem XNG_in : ∀ w ∈ XNG, w ∈ lw_tbl := by decide +kernel
def xkind : Cond → Bool
  | .castable _ _ => true
  | .declares _ => true
  | _ => false
theorem XNG_kind : XNG.all xkind = true := by decide +kernel
theorem XNG_warm {w : Cond} (hw : w ∈ XNG) {s U : State} (hW : s.WarmedH U.vm) (h : va_Nw w s) : va_Nw w U := by
  have h1 := List.all_eq_true.mp XNG_kind w hw
  cases w with
  | castable a b => exact h.warmC hW
  | declares x => exact h.warmD hW
  | _ => cases h1
def STL : List (Nat × String) := [(94, "there is no such cell"), (97, "a number is 0 to 9999"), (107, "points begin at 0 to 50, with steps of 0 to 9"), (140, "a way is 0 to 2"), (147, "there is a witness against the rule"), (164, "a weight is 1 to 99"), (169, "there are 10 weights"), (209, "a slot is 0 or 1"), (222, "there is no snapshot in the slot"), (233, "there is no saved state"), (249, "what is 0 to 8"), (69, "rows and columns are 1 to 10"), (174, "there is only one weight"), (179, "a code is 33 to 126"), (184, "the buffer has 60 characters"), (198, "the buffer does not tell a table"), (239, "there is no such row"), (244, "what is 0 to 3"), (254, "there is no such weight"), (256, "there are not so many parts, or what is not 0 or 1"), (270, "there are not so many parts, or a cut is below 0"), (276, "a cost is 1 to 999999")]
def TX (G : GT) (s : State) : Prop := (∀ w ∈ XNG, va_Nw w s) ∧ (∀ q ∈ STL, ∃ sa, vk_R RX7 q.1 q.2 sa s) ∧ vx_Zq Bundle.tN "UNASSIGNED_STACK" Bundle.steD (Aq G) s s.heap ∧ vx_Zq Bundle.tN "SUPPRESSED_SENTINEL" Bundle.listD (Aq G) s s.heap
theorem TX.warm {G : GT} {s U : State} (h : TX G s) (hW : s.WarmedH U.vm) (hq : ∀ a : Nat, a < s.heap.size → ¬ Aq G a → U.heap[a]? = s.heap[a]?) : TX G U := by
  obtain ⟨h1, h2, h3, h4⟩ := h
  refine ⟨fun w hw => XNG_warm hw hW (h1 w hw), fun q hq2 => ?_, (h3.kept hq).moved hW.alike, (h4.kept hq).moved hW.alike⟩
  obtain ⟨sa, h⟩ := h2 q hq2
  exact ⟨sa, h.warm hW⟩
def XCd (G : GT) (ex : Bool) (sh : List Ob) (PX : String → Sg → Prop) : String → State → State → Prop := fun E st t => (∃ τ, PX E τ ∧ Hw G ex sh τ t.heap) ∧ va_F (Aq G) st t
def CtX (G : GT) (M : MI) (d : Nat) (sh : List Ob) (args : List Value) (σ : Sg) (Post : Option Value → Sg → Prop) (PX : String → Sg → Prop) : Prop :=
  ∀ l : Launch, l.stackTraces = false → vx_Met l M.1 [Cond.code M.1 M.2.1 M.2.2.1 M.2.2.2] (rmD d 1 6) (fun a U => Pn G false sh args σ a U ∧ TX G U) (Qn G false sh Post) (XCd G false sh PX) 1 6 (Aq G)
def EX (G : GT) : ET := fun l s _ c => l.stackTraces = false ∧ TX G s ∧ ∀ x ∈ c.exceptionTable.toList, False
def Zx (G : GT) (sh : List Ob) (Post : Option Value → Sg → Prop) (PX : String → Sg → Prop) : ZT := fun below args s => vx_MQ below (Qn G false sh Post) (XCd G false sh PX) args s 1 6 (Aq G)
section THR
variable {G : GT} {M : MI} {R : Room} {E : ET} {Z : ZT} {ex : Bool} {sh : List Ob} {k n : Nat} {pc : Nat} {lv lv' : List (Nat × Value)} {st : List Value} {σ : Sg}
theorem r_xl {Post : Option Value → Sg → Prop} {PX : String → Sg → Prop} (kk : Rn G M R E (Zn G false sh Post 1 6) ex sh k n pc lv st σ) : Rn G M R E (Zx G sh Post PX) ex sh k n pc lv st σ := fun p l e s m args below meth c H locs ls F => vx_ret (kk p l e s m args below meth c H locs ls F)
theorem ctx_of {d : Nat} {As : List Value} {Post : Option Value → Sg → Prop} {PX : String → Sg → Prop} (hy : plainName M.1.cls = true) (hlen : (lg_sl As).length ≤ M.2.2.1) (hlv : lv_args 0 As = lv)
    (hR : Rn G M (rmD d 1 6) (EX G) (Zx G sh Post PX) false sh 0 0 0 lv [] σ) : CtX G M d sh As σ Post PX := by
  intro l hst
  refine vx_ofW (cc := M.2.1) (maxL := M.2.2.1) (ret := M.2.2.2) hy rfl ?_
  intro p e s m args below meth c s₁ B hml htab hv
  obtain ⟨⟨rfl, hTb, hHw⟩, hTX⟩ := hv
  have hx := B.exec
  have hb := B.bytes
  have hr := B.returns
  have hown : s.vm.findClass M.1.cls = some m.cls := findClass_of_methodNamed B.named
  have hlocks := B.notSynchronized
  have hin : meth.name = M.1.name := (name_of_methodNamed B.named B.method).1
  have hl := lv_entry As (n := M.2.2.1) hlen
  rw [lg_entry_eq]
  rw [hlv] at hl
  exact hR p l e s m _ below meth c s.heap [] _ ⟨hx, hb, hml, hr, hown, fun w hw => word_at (State.WarmedH.refl s) (TBG_gd hw) (hTb.2.1 w hw), hTb, hHw, va_S.rf, hl, hlocks, hin, hst, hTX, htab⟩
theorem hat_of {ic : Nat} {X : String} {s : State} {args : Array Value} (hg : ∀ w ∈ (vx_atS RX7 ic X xnm).filter goodWord, w ∈ lw_tbl) (hn : ∀ w ∈ (vx_atS RX7 ic X xnm).filter (fun w => !goodWord w), w ∈ XNG)
    (h1 : ∀ w ∈ TBG, w.before args s = true) (h2 : ∀ w ∈ XNG, va_Nw w s) : ∀ w ∈ vx_atS RX7 ic X xnm, w.before args s = true := by
  intro w hw
  by_cases g : goodWord w = true
  · exact h1 w (List.mem_filter.mpr ⟨hg w (List.mem_filter.mpr ⟨hw, g⟩), g⟩)
  · have h3 := hn w (List.mem_filter.mpr ⟨hw, by simp [g]⟩)
    have h4 := List.all_eq_true.mp XNG_kind w h3
    have h5 := h2 w h3
    cases w with
    | castable a b => exact h5.use rfl
    | declares x => exact h5.use rfl
    | _ => cases h4
/-- 'throw new E("text")' -/
theorem r_throw {ik is ic : Nat} {X text : String} {Post : Option Value → Sg → Prop} {PX : String → Sg → Prop}
    (hg : ∀ w ∈ (vx_atS RX7 ic X xnm).filter goodWord, w ∈ lw_tbl) (hn : ∀ w ∈ (vx_atS RX7 ic X xnm).filter (fun w => !goodWord w), w ∈ XNG) (hM : M.1.cls = RX7)
    (hk : Cond.classLink RX7 ik X ∈ TBG) (hini : Cond.initialized X ∈ TBG) (hstr : (is, text) ∈ STL) (hfit : Bundle.fit X = true) (hgood : (Cond.classLink RX7 ik X :: Cond.initialized X :: vx_atS RX7 ic X xnm).all vx_ot = true)
    (d0 : decode M.2.1 pc = .ok (.new ik, 3)) (d3 : decode M.2.1 (pc + 3) = .ok (.dup, 1)) (d4 : decode M.2.1 (pc + 4) = .ok (.ldc is, 2)) (d6 : decode M.2.1 (pc + 6) = .ok (.invokespecial ic, 3)) (d9 : decode M.2.1 (pc + 9) = .ok (.athrow, 1))
    (hRf : 5 < R.frames) (hRl : 82 ≤ R.locals) (hRc : 1 ≤ R.cells) (hRs : 6 ≤ R.slots) (hp : PX X σ) :
    Rn G M R (EX G) (Zx G sh Post PX) false sh 0 0 pc lv [] σ := by
  intro p l e s m args below meth c H locs ls F
  obtain ⟨hst, hTX, htab⟩ := F.2.2.2.2.2.2.2.2.2.2.2.2
  obtain ⟨sa, hsa⟩ := hTX.2.1 _ hstr
  have hown := F.own
  rw [hM] at hown
  refine vx_throwS (names := xnm) (text := text) (A := Aq G) F.1 F.2.1 hst hown hfit (by decide +kernel) (F.wd _ hk) (F.wd _ hini) hsa (hat_of hg hn F.wd hTX.1) (fun w hw => List.all_eq_true.mp hgood w hw) hTX.2.2.1 hTX.2.2.2 F.fs (F.hl.1.trans F.2.2.1.symm) d0 d3 d4 d6 d9 (fun x hx => (htab x hx).elim) (by show 2 + 3 < _; omega) (by show 0 + (13 * 3 + 43) ≤ _; omega) (by omega) (by omega) F.lk (fun t ha hz hq => ?_) (fun q hq => F.fs.2.2 q hq) (Nat.le_refl _) (Nat.le_refl _)
  refine ⟨⟨σ, hp, ?_, fun q => by cases q⟩, ?_⟩
  · exact F.hw.1.kept (fun k q hk => hq q.1 (F.hw.1 k q hk).lt)
  · exact ⟨Nat.le_trans F.fs.1 hz, fun q h1 h2 => (hq q (Nat.lt_of_lt_of_le h1 F.fs.1)).trans (F.fs.2.1 q h1 h2)⟩
end THR
theorem xn1 : ∀ w ∈ (vx_atS RX7 71 xE1 xnm).filter (fun w => !goodWord w), w ∈ XNG := fun w h => List.mem_append_left _ h
theorem xn2 : ∀ w ∈ (vx_atS RX7 96 xE2 xnm).filter (fun w => !goodWord w), w ∈ XNG := fun w h => List.mem_append_right _ (List.mem_append_left _ h)
theorem xn3 : ∀ w ∈ (vx_atS RX7 149 xE3 xnm).filter (fun w => !goodWord w), w ∈ XNG := fun w h => List.mem_append_right _ (List.mem_append_right _ h)
set_option maxRecDepth 20000 in
theorem xo1 : (Cond.classLink RX7 67 xE1 :: Cond.initialized xE1 :: vx_atS RX7 71 xE1 xnm).all vx_ot = true := by decide +kernel
set_option maxRecDepth 20000 in
theorem xo2 : (Cond.classLink RX7 92 xE2 :: Cond.initialized xE2 :: vx_atS RX7 96 xE2 xnm).all vx_ot = true := by decide +kernel
set_option maxRecDepth 20000 in
theorem xo3 : (Cond.classLink RX7 145 xE3 :: Cond.initialized xE3 :: vx_atS RX7 149 xE3 xnm).all vx_ot = true := by decide +kernel
theorem xf1 : Bundle.fit xE1 = true := by decide +kernel
theorem xf2 : Bundle.fit xE2 = true := by decide +kernel
theorem xf3 : Bundle.fit xE3 = true := by decide +kernel
theorem stl94 : ((94, "there is no such cell") : Nat × String) ∈ STL := List.mem_of_getElem? (i := 0) rfl
theorem stl97 : ((97, "a number is 0 to 9999") : Nat × String) ∈ STL := List.mem_of_getElem? (i := 1) rfl
theorem stl107 : ((107, "points begin at 0 to 50, with steps of 0 to 9") : Nat × String) ∈ STL := List.mem_of_getElem? (i := 2) rfl
theorem stl140 : ((140, "a way is 0 to 2") : Nat × String) ∈ STL := List.mem_of_getElem? (i := 3) rfl
theorem stl147 : ((147, "there is a witness against the rule") : Nat × String) ∈ STL := List.mem_of_getElem? (i := 4) rfl
theorem stl164 : ((164, "a weight is 1 to 99") : Nat × String) ∈ STL := List.mem_of_getElem? (i := 5) rfl
theorem stl169 : ((169, "there are 10 weights") : Nat × String) ∈ STL := List.mem_of_getElem? (i := 6) rfl
theorem stl209 : ((209, "a slot is 0 or 1") : Nat × String) ∈ STL := List.mem_of_getElem? (i := 7) rfl
theorem stl222 : ((222, "there is no snapshot in the slot") : Nat × String) ∈ STL := List.mem_of_getElem? (i := 8) rfl
theorem stl233 : ((233, "there is no saved state") : Nat × String) ∈ STL := List.mem_of_getElem? (i := 9) rfl
theorem stl249 : ((249, "what is 0 to 8") : Nat × String) ∈ STL := List.mem_of_getElem? (i := 10) rfl
theorem stl69 : ((69, "rows and columns are 1 to 10") : Nat × String) ∈ STL := List.mem_of_getElem? (i := 11) rfl
theorem stl174 : ((174, "there is only one weight") : Nat × String) ∈ STL := List.mem_of_getElem? (i := 12) rfl
theorem stl179 : ((179, "a code is 33 to 126") : Nat × String) ∈ STL := List.mem_of_getElem? (i := 13) rfl
theorem stl184 : ((184, "the buffer has 60 characters") : Nat × String) ∈ STL := List.mem_of_getElem? (i := 14) rfl
theorem stl198 : ((198, "the buffer does not tell a table") : Nat × String) ∈ STL := List.mem_of_getElem? (i := 15) rfl
theorem stl239 : ((239, "there is no such row") : Nat × String) ∈ STL := List.mem_of_getElem? (i := 16) rfl
theorem stl244 : ((244, "what is 0 to 3") : Nat × String) ∈ STL := List.mem_of_getElem? (i := 17) rfl
theorem stl254 : ((254, "there is no such weight") : Nat × String) ∈ STL := List.mem_of_getElem? (i := 18) rfl
theorem stl256 : ((256, "there are not so many parts, or what is not 0 or 1") : Nat × String) ∈ STL := List.mem_of_getElem? (i := 19) rfl
theorem stl270 : ((270, "there are not so many parts, or a cut is below 0") : Nat × String) ∈ STL := List.mem_of_getElem? (i := 20) rfl
theorem stl276 : ((276, "a cost is 1 to 999999") : Nat × String) ∈ STL := List.mem_of_getElem? (i := 21) rfl
