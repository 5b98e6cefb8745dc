
/-! the world: cells at base + id, whose numbers are one function of id and place -/
abbrev Sg : Type := Nat → Int → Int
abbrev FK : Type := Bool ⊕ Option Nat
abbrev Ob : Type := (Nat × List FK) ⊕ (Nat ⊕ (Nat ⊕ (Nat × (Nat → Option Nat))))
abbrev GT : Type := Nat × va_G × (Nat × Nat × (Nat × Nat))
def I (z : Int) : Value := .int (Int32.ofInt z)
def Lg (z : Int) : Value := .long (Int64.ofInt z)
def Rf (G : GT) (a : Nat) : Value := .ref (G.1 + a)
def cvF (B : Nat) (fk : FK) (z : Int) : Value := match fk with
  | .inl false => .int (Int32.ofInt z)
  | .inl true => .long (Int64.ofInt z)
  | .inr none => .null
  | .inr (some k) => .ref (B + k)
def ent (G : GT) (f : Int → Int) (o : Ob) : va_E := match o with
  | .inl (ci, fks) => .inr (ci, fks.mapIdx (fun j fk => cvF G.1 fk (f (j : Int))))
  | .inr (.inl n) => .inl (G.2.2.1, n, .inl (fun j => Int32.ofInt (f (j : Int))))
  | .inr (.inr (.inl n)) => .inl (G.2.2.2.1, n, .inr (.inl (fun j => Int64.ofInt (f (j : Int)))))
  | .inr (.inr (.inr (n, g))) => .inl (G.2.2.2.2.1, n, .inr (.inr (.inr (.inr (fun j => (g j).map (fun k => G.1 + k))))))
def wl (G : GT) (sh : List Ob) (σ : Sg) : va_W := sh.mapIdx (fun a o => (G.1 + a, ent G (σ a) o))
abbrev tysG (G : GT) : List (ClassId × FieldType) := [(G.2.2.1, .int), (G.2.2.2.1, .long), (G.2.2.2.2.1, .object "LeastRows$State")]
def up (σ : Sg) (a : Nat) (i : Int) (z : Int) : Sg := fun b j => if b = a then (if j = i then z else σ b j) else σ b j
theorem up_ne {σ : Sg} {a b : Nat} {i z : Int} (h : b ≠ a) : up σ a i z b = σ b := by funext j; simp [up, h]
theorem up_eq {σ : Sg} {a : Nat} {i z : Int} : up σ a i z a i = z := by simp [up]
theorem up_nj {σ : Sg} {a : Nat} {i j z : Int} (h : j ≠ i) : up σ a i z a j = σ a j := by simp [up, h]
theorem up_at {σ : Sg} {a : Nat} {i z j : Int} : up σ a i z a j = if j = i then z else σ a j := by simp [up]
theorem wl_get {G : GT} {sh : List Ob} {σ : Sg} {a : Nat} {o : Ob} (h : sh[a]? = some o) : (wl G sh σ)[a]? = some (G.1 + a, ent G (σ a) o) := by
  simp [wl, List.getElem?_mapIdx, h]
theorem wl_some {G : GT} {sh : List Ob} {σ : Sg} {a : Nat} {q : Nat × va_E} (h : (wl G sh σ)[a]? = some q) : ∃ o, sh[a]? = some o ∧ q = (G.1 + a, ent G (σ a) o) := by
  simp only [wl, List.getElem?_mapIdx, Option.map_eq_some_iff] at h
  obtain ⟨o, h1, h2⟩ := h
  exact ⟨o, h1, h2.symm⟩
def Aq (G : GT) : Nat → Prop := fun q => G.1 - G.2.2.2.2.2 ≤ q
theorem Aq_in {G : GT} {a : Nat} : Aq G (G.1 + a) := Nat.le_trans (Nat.sub_le _ _) (Nat.le_add_right _ _)
theorem wl_D {G : GT} {sh : List Ob} {σ : Sg} : va_D (Aq G) (wl G sh σ) := by
  refine ⟨fun i j p q hi hj hpq => ?_, fun k q hk => ?_⟩
  · obtain ⟨o, -, rfl⟩ := wl_some hi
    obtain ⟨o', -, rfl⟩ := wl_some hj
    exact Nat.add_left_cancel hpq
  · obtain ⟨o, -, rfl⟩ := wl_some hk
    exact Aq_in
theorem wl_set {G : GT} {sh : List Ob} {σ σ' : Sg} {a : Nat} {o o' : Ob} (h : sh[a]? = some o) (hσ : ∀ b, b ≠ a → σ' b = σ b) : (wl G sh σ).set a (G.1 + a, ent G (σ' a) o') = wl G (sh.set a o') σ' := by
  have hl := (List.getElem?_eq_some_iff.mp h).1
  apply List.ext_getElem?
  intro k
  by_cases hk : k = a
  · subst hk
    rw [List.getElem?_set_self (by simpa [wl] using hl)]
    rw [wl_get (List.getElem?_set_self hl)]
  · rw [List.getElem?_set_ne (Ne.symm hk)]
    simp only [wl, List.getElem?_mapIdx, List.getElem?_set_ne (Ne.symm hk), hσ k hk]
theorem set_same {sh : List Ob} {a : Nat} {o : Ob} (h : sh[a]? = some o) : sh.set a o = sh := by
  apply List.ext_getElem?
  intro k
  by_cases hk : k = a
  · subst hk
    rw [List.getElem?_set_self (List.getElem?_eq_some_iff.mp h).1, h]
  · rw [List.getElem?_set_ne (Ne.symm hk)]
theorem wl_set0 {G : GT} {sh : List Ob} {σ σ' : Sg} {a : Nat} {o : Ob} (h : sh[a]? = some o) (hσ : ∀ b, b ≠ a → σ' b = σ b) : (wl G sh σ).set a (G.1 + a, ent G (σ' a) o) = wl G sh σ' := by
  rw [wl_set h hσ, set_same h]
theorem wl_push {G : GT} {sh : List Ob} {σ : Sg} {o : Ob} {q : Nat} (hq : q = G.1 + sh.length) : wl G sh σ ++ [(q, ent G (σ sh.length) o)] = wl G (sh ++ [o]) σ := by
  subst hq
  simp [wl, List.mapIdx_append]
def Tb (G : GT) (s : State) : Prop := va_K G.2.1 vwCl (tysG G) s ∧ (∀ w ∈ TBG, w.before #[] s = true) ∧ (∀ w ∈ NWL, va_Nw w s) ∧ G.1 - G.2.2.2.2.2 ≤ s.heap.size
def Hw (G : GT) (ex : Bool) (sh : List Ob) (σ : Sg) (H : Heap) : Prop := va_P G.2.1 vwCl (wl G sh σ) H ∧ (ex = true → H.size = G.1 + sh.length)
abbrev MI : Type := MethodName × ByteArray × Nat × Option FieldType
def rmD (d mc ms : Nat) : Room := { frames := d, cells := mc, slots := ms, locals := 40 * d }
def Qn (G : GT) (ex : Bool) (sh : List Ob) (Post : Option Value → Sg → Prop) : Array Value → State → Outcome → State → Prop := fun _ st oc t =>
  (∃ (r : Option Value) (σ' : Sg), oc = .returned r ∧ Post r σ' ∧ Hw G ex sh σ' t.heap) ∧ va_F (Aq G) st t
def Pn (G : GT) (ex : Bool) (sh : List Ob) (args : List Value) (σ : Sg) : Array Value → State → Prop := fun a U => a = args.toArray ∧ Tb G U ∧ Hw G ex sh σ U.heap
def Ct (G : GT) (M : MI) (d mc ms : Nat) (ex : Bool) (sh sh' : List Ob) (args : List Value) (σ : Sg) (Post : Option Value → Sg → Prop) : Prop :=
  ∀ l : Launch, Met l M.1 [Cond.code M.1 M.2.1 M.2.2.1 M.2.2.2] (rmD d mc ms) (Pn G ex sh args σ) (Qn G ex sh' Post) mc ms (Aq G)
abbrev ET : Type := Launch → State → Array Value → Code → Prop
abbrev ZT : Type := List Frame → Array Value → State → State → Prop
def Fx (G : GT) (M : MI) (E : ET) (ex : Bool) (sh : List Ob) (σ : Sg) (lv : List (Nat × Value)) (p : Program) (l : Launch) (s : State) (m : MethodId) (args : Array Value) (meth : Method) (c : Code) (H : Heap) (locs : List Loc) (ls : Array Slot) : Prop :=
  p.tables.exec = Jvm.exec ∧ c.code = M.2.1 ∧ c.maxLocals = M.2.2.1 ∧ meth.sig.returnType = M.2.2.2 ∧ s.vm.findClass M.1.cls = some m.cls ∧ (∀ w ∈ TBG, w.before args s = true) ∧ Tb G s ∧ Hw G ex sh σ H ∧ va_S (Aq G) s.heap H locs ∧ lv_has ls M.2.2.1 lv ∧ meth.locks = false ∧ meth.name = M.1.name ∧ E l s args c
def Rn (G : GT) (M : MI) (R : Room) (E : ET) (Z : ZT) (ex : Bool) (sh : List Ob) (k n : Nat) (pc : Nat) (lv : List (Nat × Value)) (st : List Value) (σ : Sg) : Prop :=
  ∀ (p : Program) (l : Launch) (e : Env) (s : State) (m : MethodId) (args : Array Value) (below : List Frame) (meth : Method) (c : Code) (H : Heap) (locs : List Loc) (ls : Array Slot),
    Fx G M E ex sh σ lv p l s m args meth c H locs ls → W p l e R s m args below meth c H locs k n (Z below args s) (F0 m pc ls st)
/-! numbers -/
theorem oI {z : Int} (h1 : -2147483648 ≤ z) (h2 : z ≤ 2147483647) : (Int32.ofInt z).toInt = z := Int32.toInt_ofInt_of_le (by omega) (by omega)
theorem oI_lt {x y : Int} (h : -2147483648 ≤ x ∧ x ≤ 2147483647 ∧ -2147483648 ≤ y ∧ y ≤ 2147483647) : Int32.ofInt x < Int32.ofInt y ↔ x < y := by
  rw [Int32.lt_iff_toInt_lt, oI h.1 h.2.1, oI h.2.2.1 h.2.2.2]
theorem oI_le {x y : Int} (h : -2147483648 ≤ x ∧ x ≤ 2147483647 ∧ -2147483648 ≤ y ∧ y ≤ 2147483647) : Int32.ofInt x ≤ Int32.ofInt y ↔ x ≤ y := by
  rw [Int32.le_iff_toInt_le, oI h.1 h.2.1, oI h.2.2.1 h.2.2.2]
theorem oI_eq {x y : Int} (h : -2147483648 ≤ x ∧ x ≤ 2147483647 ∧ -2147483648 ≤ y ∧ y ≤ 2147483647) : Int32.ofInt x = Int32.ofInt y ↔ x = y := by
  rw [← Int32.toInt_inj, oI h.1 h.2.1, oI h.2.2.1 h.2.2.2]
theorem oI_0 : (0 : Int32) = Int32.ofInt 0 := rfl
theorem oI_nat {z : Int} (h1 : 0 ≤ z) (h2 : z ≤ 2147483647) : ((Int32.ofInt z).toNatClampNeg : Int) = z := by
  rw [Int32.toNatClampNeg_ofInt_of_le (by omega) (by omega)]
  omega
theorem oI_in {z : Int} {n : Nat} (h : 0 ≤ z ∧ z < (n : Int) ∧ (n : Int) ≤ 2147483647) : vp_in (Int32.ofInt z) n := by
  have h1 := oI_nat h.1 (by omega)
  rintro (q | q)
  · rw [oI_0, oI_lt (by omega)] at q
    omega
  · omega
/-! locals -/
def lins (i : Nat) (v : Value) : List (Nat × Value) → List (Nat × Value)
  | [] => [(i, v)]
  | q :: t => bif Nat.ble i q.1 then (i, v) :: q :: t else q :: lins i v t
theorem lins_mem {i : Nat} {v : Value} {q : Nat × Value} : ∀ {l : List (Nat × Value)}, q ∈ lins i v l → q ∈ (i, v) :: l
  | [], h => h
  | a :: t, h => by
    unfold lins at h
    cases hb : Nat.ble i a.1 with
    | true => rw [hb] at h; exact h
    | false =>
      rw [hb] at h
      rcases List.mem_cons.mp h with e | h
      · exact List.mem_cons_of_mem _ (by rw [e]; exact List.mem_cons_self)
      · rcases List.mem_cons.mp (lins_mem h) with e | h
        · exact by rw [e]; exact List.mem_cons_self
        · exact List.mem_cons_of_mem _ (List.mem_cons_of_mem _ h)
theorem lv_ins {ls : Array Slot} {nL i : Nat} {v : Value} {F lv' : List (Nat × Value)} (h : lv_has ls nL ((i, v) :: F)) (hl : lins i v F = lv') : lv_has ls nL lv' :=
  ⟨h.1, h.2.1, fun q hq => h.2.2 q (lins_mem (by rw [hl]; exact hq))⟩
theorem lkp_mem {i : Nat} {v : Value} : ∀ {lv : List (Nat × Value)}, lv.lookup i = some v → (i, v) ∈ lv
  | [], h => by simp at h
  | (j, w) :: t, h => by
    by_cases hj : i = j
    · subst hj
      simp at h
      subst h
      exact List.mem_cons_self
    · have hb : (i == j) = false := by simpa using hj
      rw [List.lookup_cons, hb] at h
      exact List.mem_cons_of_mem _ (lkp_mem h)
theorem lkp {ls : Array Slot} {nL i : Nat} {v : Value} {lv : List (Nat × Value)} (h : lv_has ls nL lv) (hl : lv.lookup i = some v) : ls[i]? = some (.val v) := h.2.2 (i, v) (lkp_mem hl)
theorem Fx.lv {G : GT} {M : MI} {E : ET} {ex : Bool} {sh : List Ob} {σ : Sg} {lv lv' : List (Nat × Value)} {p : Program} {l : Launch} {s : State} {m : MethodId} {args : Array Value} {meth : Method} {c : Code} {H : Heap} {locs : List Loc} {ls ls' : Array Slot}
    (F : Fx G M E ex sh σ lv p l s m args meth c H locs ls) (h : lv_has ls' M.2.2.1 lv') : Fx G M E ex sh σ lv' p l s m args meth c H locs ls' := by
  obtain ⟨a1, a2, a3, a4, a5, a6, a7, a8, a9, a10, a11⟩ := F
  exact ⟨a1, a2, a3, a4, a5, a6, a7, a8, a9, h, a11⟩
theorem Fx.hp {G : GT} {M : MI} {E : ET} {ex : Bool} {sh sh' : List Ob} {σ σ' : Sg} {lv : List (Nat × Value)} {p : Program} {l : Launch} {s : State} {m : MethodId} {args : Array Value} {meth : Method} {c : Code} {H H' : Heap} {locs locs' : List Loc} {ls : Array Slot}
    (F : Fx G M E ex sh σ lv p l s m args meth c H locs ls) (h : Hw G ex sh' σ' H') (h2 : va_S (Aq G) s.heap H' locs') : Fx G M E ex sh' σ' lv p l s m args meth c H' locs' ls := by
  obtain ⟨a1, a2, a3, a4, a5, a6, a7, a8, a9, a10, a11⟩ := F
  exact ⟨a1, a2, a3, a4, a5, a6, a7, h, h2, a10, a11⟩
theorem Fx.wd {G : GT} {M : MI} {E : ET} {ex : Bool} {sh : List Ob} {σ : Sg} {lv : List (Nat × Value)} {p : Program} {l : Launch} {s : State} {m : MethodId} {args : Array Value} {meth : Method} {c : Code} {H : Heap} {locs : List Loc} {ls : Array Slot}
    (F : Fx G M E ex sh σ lv p l s m args meth c H locs ls) : ∀ w ∈ TBG, w.before args s = true := F.2.2.2.2.2.1
theorem Fx.own {G : GT} {M : MI} {E : ET} {ex : Bool} {sh : List Ob} {σ : Sg} {lv : List (Nat × Value)} {p : Program} {l : Launch} {s : State} {m : MethodId} {args : Array Value} {meth : Method} {c : Code} {H : Heap} {locs : List Loc} {ls : Array Slot}
    (F : Fx G M E ex sh σ lv p l s m args meth c H locs ls) : s.vm.findClass M.1.cls = some m.cls := F.2.2.2.2.1
theorem Fx.tb {G : GT} {M : MI} {E : ET} {ex : Bool} {sh : List Ob} {σ : Sg} {lv : List (Nat × Value)} {p : Program} {l : Launch} {s : State} {m : MethodId} {args : Array Value} {meth : Method} {c : Code} {H : Heap} {locs : List Loc} {ls : Array Slot}
    (F : Fx G M E ex sh σ lv p l s m args meth c H locs ls) : Tb G s := F.2.2.2.2.2.2.1
theorem Fx.hw {G : GT} {M : MI} {E : ET} {ex : Bool} {sh : List Ob} {σ : Sg} {lv : List (Nat × Value)} {p : Program} {l : Launch} {s : State} {m : MethodId} {args : Array Value} {meth : Method} {c : Code} {H : Heap} {locs : List Loc} {ls : Array Slot}
    (F : Fx G M E ex sh σ lv p l s m args meth c H locs ls) : Hw G ex sh σ H := F.2.2.2.2.2.2.2.1
theorem Fx.fs {G : GT} {M : MI} {E : ET} {ex : Bool} {sh : List Ob} {σ : Sg} {lv : List (Nat × Value)} {p : Program} {l : Launch} {s : State} {m : MethodId} {args : Array Value} {meth : Method} {c : Code} {H : Heap} {locs : List Loc} {ls : Array Slot}
    (F : Fx G M E ex sh σ lv p l s m args meth c H locs ls) : va_S (Aq G) s.heap H locs := F.2.2.2.2.2.2.2.2.1
theorem Fx.hl {G : GT} {M : MI} {E : ET} {ex : Bool} {sh : List Ob} {σ : Sg} {lv : List (Nat × Value)} {p : Program} {l : Launch} {s : State} {m : MethodId} {args : Array Value} {meth : Method} {c : Code} {H : Heap} {locs : List Loc} {ls : Array Slot}
    (F : Fx G M E ex sh σ lv p l s m args meth c H locs ls) : lv_has ls M.2.2.1 lv := F.2.2.2.2.2.2.2.2.2.1
theorem Fx.lk {G : GT} {M : MI} {E : ET} {ex : Bool} {sh : List Ob} {σ : Sg} {lv : List (Nat × Value)} {p : Program} {l : Launch} {s : State} {m : MethodId} {args : Array Value} {meth : Method} {c : Code} {H : Heap} {locs : List Loc} {ls : Array Slot}
    (F : Fx G M E ex sh σ lv p l s m args meth c H locs ls) : meth.locks = false := F.2.2.2.2.2.2.2.2.2.2.1
section ROWS
variable {G : GT} {M : MI} {R : Room} {E : ET} {Z : ZT} {ex : Bool} {sh : List Ob} {k n : Nat} {pc : Nat} {lv lv' : List (Nat × Value)} {st : List Value} {σ : Sg}

theorem r_iconst {z : Int} (hdg : decode M.2.1 pc = .ok (.iconst z, 1))  (kk : Rn G M R E Z ex sh k n (pc + 1) lv (I z :: st) σ) : Rn G M R E Z ex sh k n pc lv st σ := fun p l e s m args below meth c H locs ls F => lv_iconst F.1 F.2.1 hdg rfl  (kk p l e s m args below meth c H locs ls F)
theorem r_bipush {z : Int} (hdg : decode M.2.1 pc = .ok (.bipush z, 2)) (hv : (Int8.ofInt z).toInt32 = Int32.ofInt z) (kk : Rn G M R E Z ex sh k n (pc + 2) lv (I z :: st) σ) : Rn G M R E Z ex sh k n pc lv st σ := fun p l e s m args below meth c H locs ls F => lv_bipush F.1 F.2.1 hdg hv (kk p l e s m args below meth c H locs ls F)
theorem r_sipush {z : Int} (hdg : decode M.2.1 pc = .ok (.sipush z, 3)) (hv : (Int16.ofInt z).toInt32 = Int32.ofInt z) (kk : Rn G M R E Z ex sh k n (pc + 3) lv (I z :: st) σ) : Rn G M R E Z ex sh k n pc lv st σ := fun p l e s m args below meth c H locs ls F => lv_sipush F.1 F.2.1 hdg hv (kk p l e s m args below meth c H locs ls F)
theorem r_lconst {q : Fin 2} {z : Int} (hdg : decode M.2.1 pc = .ok (.lconst q, 1)) (hv : Int64.ofNat (q : Nat) = Int64.ofInt z) (kk : Rn G M R E Z ex sh k n (pc + 1) lv (Lg z :: st) σ) : Rn G M R E Z ex sh k n pc lv st σ := fun p l e s m args below meth c H locs ls F => lv_lconst F.1 F.2.1 hdg hv (kk p l e s m args below meth c H locs ls F)
theorem r_dconst0  (hdg : decode M.2.1 pc = .ok (.dconst 0, 1))  (kk : Rn G M R E Z ex sh k n (pc + 1) lv (Value.double FP.dconst0 :: st) σ) : Rn G M R E Z ex sh k n pc lv st σ := fun p l e s m args below meth c H locs ls F => lv_dconst0 F.1 F.2.1 hdg  (kk p l e s m args below meth c H locs ls F)
theorem r_dconst1  (hdg : decode M.2.1 pc = .ok (.dconst 1, 1))  (kk : Rn G M R E Z ex sh k n (pc + 1) lv (Value.double FP.dconst1 :: st) σ) : Rn G M R E Z ex sh k n pc lv st σ := fun p l e s m args below meth c H locs ls F => lv_dconst1 F.1 F.2.1 hdg  (kk p l e s m args below meth c H locs ls F)
theorem r_ldc {z : Int} {idx : Nat} (hdg : decode M.2.1 pc = .ok (.ldc idx, 2)) (hw : Cond.constant M.1.cls idx (Int32.ofInt z) ∈ TBG) (kk : Rn G M R E Z ex sh k n (pc + 2) lv (I z :: st) σ) : Rn G M R E Z ex sh k n pc lv st σ := fun p l e s m args below meth c H locs ls F => lv_ldc F.1 F.2.1 F.own (F.wd _ hw) hdg (kk p l e s m args below meth c H locs ls F)
theorem r_ldc2 {z : Int} {idx : Nat} (hdg : decode M.2.1 pc = .ok (.ldc2_w idx, 3)) (hw : Cond.constantLong M.1.cls idx (Int64.ofInt z) ∈ TBG) (kk : Rn G M R E Z ex sh k n (pc + 3) lv (Lg z :: st) σ) : Rn G M R E Z ex sh k n pc lv st σ := fun p l e s m args below meth c H locs ls F => lv_ldc2 F.1 F.2.1 F.own (F.wd _ hw) hdg (kk p l e s m args below meth c H locs ls F)
theorem r_ldc2d {z : UInt64} {idx : Nat} (hdg : decode M.2.1 pc = .ok (.ldc2_w idx, 3)) (hw : Cond.constantDouble M.1.cls idx z ∈ TBG) (kk : Rn G M R E Z ex sh k n (pc + 3) lv (.double z :: st) σ) : Rn G M R E Z ex sh k n pc lv st σ := fun p l e s m args below meth c H locs ls F => lv_ldc2d F.1 F.2.1 F.own (F.wd _ hw) hdg (kk p l e s m args below meth c H locs ls F)
theorem r_iload_n {q : Fin 4} {i : Nat} {x : Int} (hdg : decode M.2.1 pc = .ok (.iload_n q, 1)) (hi : (q : Nat) = i) (hl : lv.lookup i = some (I x)) (kk : Rn G M R E Z ex sh k n (pc + 1) lv (I x :: st) σ) : Rn G M R E Z ex sh k n pc lv st σ := fun p l e s m args below meth c H locs ls F => lv_iload_n F.1 F.2.1 hdg hi (lkp F.hl hl) (kk p l e s m args below meth c H locs ls F)
theorem r_iload {i : Nat} {x : Int} (hdg : decode M.2.1 pc = .ok (.iload i, 2)) (hl : lv.lookup i = some (I x)) (kk : Rn G M R E Z ex sh k n (pc + 2) lv (I x :: st) σ) : Rn G M R E Z ex sh k n pc lv st σ := fun p l e s m args below meth c H locs ls F => lv_iload F.1 F.2.1 hdg (lkp F.hl hl) (kk p l e s m args below meth c H locs ls F)
theorem r_istore_n {q : Fin 4} {i : Nat} {x : Int} (hdg : decode M.2.1 pc = .ok (.istore_n q, 1)) (hi : (q : Nat) = i) (hn : i < M.2.2.1) (hl : lins i (I x) (lv.filter (fun q => !(q.1 == i) && !(q.1 + 1 == i && q.2.category == 2))) = lv') (kk : Rn G M R E Z ex sh k n (pc + 1) lv' st σ) : Rn G M R E Z ex sh k n pc lv ((I x) :: st) σ := fun p l e s m args below meth c H locs ls F => lv_istore_n F.1 F.2.1 hdg hi F.hl hn rfl (fun ls' h => kk p l e s m args below meth c H locs ls' (F.lv (lv_ins h hl)))
theorem r_istore {i : Nat} {x : Int} (hdg : decode M.2.1 pc = .ok (.istore i, 2)) (hn : i < M.2.2.1) (hl : lins i (I x) (lv.filter (fun q => !(q.1 == i) && !(q.1 + 1 == i && q.2.category == 2))) = lv') (kk : Rn G M R E Z ex sh k n (pc + 2) lv' st σ) : Rn G M R E Z ex sh k n pc lv ((I x) :: st) σ := fun p l e s m args below meth c H locs ls F => lv_istore F.1 F.2.1 hdg F.hl hn rfl (fun ls' h => kk p l e s m args below meth c H locs ls' (F.lv (lv_ins h hl)))
theorem r_aload_n {q : Fin 4} {i : Nat} {x : Nat} (hdg : decode M.2.1 pc = .ok (.aload_n q, 1)) (hi : (q : Nat) = i) (hl : lv.lookup i = some (Rf G x)) (kk : Rn G M R E Z ex sh k n (pc + 1) lv (Rf G x :: st) σ) : Rn G M R E Z ex sh k n pc lv st σ := fun p l e s m args below meth c H locs ls F => lv_aload_n F.1 F.2.1 hdg hi (lkp F.hl hl) (kk p l e s m args below meth c H locs ls F)
theorem r_aload {i : Nat} {x : Nat} (hdg : decode M.2.1 pc = .ok (.aload i, 2)) (hl : lv.lookup i = some (Rf G x)) (kk : Rn G M R E Z ex sh k n (pc + 2) lv (Rf G x :: st) σ) : Rn G M R E Z ex sh k n pc lv st σ := fun p l e s m args below meth c H locs ls F => lv_aload F.1 F.2.1 hdg (lkp F.hl hl) (kk p l e s m args below meth c H locs ls F)
theorem r_astore_n {q : Fin 4} {i : Nat} {x : Nat} (hdg : decode M.2.1 pc = .ok (.astore_n q, 1)) (hi : (q : Nat) = i) (hn : i < M.2.2.1) (hl : lins i (Rf G x) (lv.filter (fun q => !(q.1 == i) && !(q.1 + 1 == i && q.2.category == 2))) = lv') (kk : Rn G M R E Z ex sh k n (pc + 1) lv' st σ) : Rn G M R E Z ex sh k n pc lv ((Rf G x) :: st) σ := fun p l e s m args below meth c H locs ls F => lv_astore_n F.1 F.2.1 hdg hi F.hl hn rfl (fun ls' h => kk p l e s m args below meth c H locs ls' (F.lv (lv_ins h hl)))
theorem r_astore {i : Nat} {x : Nat} (hdg : decode M.2.1 pc = .ok (.astore i, 2)) (hn : i < M.2.2.1) (hl : lins i (Rf G x) (lv.filter (fun q => !(q.1 == i) && !(q.1 + 1 == i && q.2.category == 2))) = lv') (kk : Rn G M R E Z ex sh k n (pc + 2) lv' st σ) : Rn G M R E Z ex sh k n pc lv ((Rf G x) :: st) σ := fun p l e s m args below meth c H locs ls F => lv_astore F.1 F.2.1 hdg F.hl hn rfl (fun ls' h => kk p l e s m args below meth c H locs ls' (F.lv (lv_ins h hl)))
theorem r_lload_n {q : Fin 4} {i : Nat} {x : Int} (hdg : decode M.2.1 pc = .ok (.lload_n q, 1)) (hi : (q : Nat) = i) (hl : lv.lookup i = some (Lg x)) (kk : Rn G M R E Z ex sh k n (pc + 1) lv (Lg x :: st) σ) : Rn G M R E Z ex sh k n pc lv st σ := fun p l e s m args below meth c H locs ls F => lv_lload_n F.1 F.2.1 hdg hi (lkp F.hl hl) (kk p l e s m args below meth c H locs ls F)
theorem r_lload {i : Nat} {x : Int} (hdg : decode M.2.1 pc = .ok (.lload i, 2)) (hl : lv.lookup i = some (Lg x)) (kk : Rn G M R E Z ex sh k n (pc + 2) lv (Lg x :: st) σ) : Rn G M R E Z ex sh k n pc lv st σ := fun p l e s m args below meth c H locs ls F => lv_lload F.1 F.2.1 hdg (lkp F.hl hl) (kk p l e s m args below meth c H locs ls F)
theorem r_lstore_n {q : Fin 4} {i : Nat} {x : Int} (hdg : decode M.2.1 pc = .ok (.lstore_n q, 1)) (hi : (q : Nat) = i) (hn : i + 1 < M.2.2.1) (hl : lins i (Lg x) (lv.filter (fun q => !(q.1 == i) && (!(q.1 == i + 1) && !(q.1 + 1 == i && q.2.category == 2)))) = lv') (kk : Rn G M R E Z ex sh k n (pc + 1) lv' st σ) : Rn G M R E Z ex sh k n pc lv ((Lg x) :: st) σ := fun p l e s m args below meth c H locs ls F => lv_lstore_n F.1 F.2.1 hdg hi F.hl hn rfl (fun ls' h => kk p l e s m args below meth c H locs ls' (F.lv (lv_ins h hl)))
theorem r_lstore {i : Nat} {x : Int} (hdg : decode M.2.1 pc = .ok (.lstore i, 2)) (hn : i + 1 < M.2.2.1) (hl : lins i (Lg x) (lv.filter (fun q => !(q.1 == i) && (!(q.1 == i + 1) && !(q.1 + 1 == i && q.2.category == 2)))) = lv') (kk : Rn G M R E Z ex sh k n (pc + 2) lv' st σ) : Rn G M R E Z ex sh k n pc lv ((Lg x) :: st) σ := fun p l e s m args below meth c H locs ls F => lv_lstore F.1 F.2.1 hdg F.hl hn rfl (fun ls' h => kk p l e s m args below meth c H locs ls' (F.lv (lv_ins h hl)))
theorem r_dload_n {q : Fin 4} {i : Nat} {x : UInt64} (hdg : decode M.2.1 pc = .ok (.dload_n q, 1)) (hi : (q : Nat) = i) (hl : lv.lookup i = some (.double x)) (kk : Rn G M R E Z ex sh k n (pc + 1) lv (.double x :: st) σ) : Rn G M R E Z ex sh k n pc lv st σ := fun p l e s m args below meth c H locs ls F => lv_dload_n F.1 F.2.1 hdg hi (lkp F.hl hl) (kk p l e s m args below meth c H locs ls F)
theorem r_dload {i : Nat} {x : UInt64} (hdg : decode M.2.1 pc = .ok (.dload i, 2)) (hl : lv.lookup i = some (.double x)) (kk : Rn G M R E Z ex sh k n (pc + 2) lv (.double x :: st) σ) : Rn G M R E Z ex sh k n pc lv st σ := fun p l e s m args below meth c H locs ls F => lv_dload F.1 F.2.1 hdg (lkp F.hl hl) (kk p l e s m args below meth c H locs ls F)
theorem r_dstore_n {q : Fin 4} {i : Nat} {x : UInt64} (hdg : decode M.2.1 pc = .ok (.dstore_n q, 1)) (hi : (q : Nat) = i) (hn : i + 1 < M.2.2.1) (hl : lins i (.double x) (lv.filter (fun q => !(q.1 == i) && (!(q.1 == i + 1) && !(q.1 + 1 == i && q.2.category == 2)))) = lv') (kk : Rn G M R E Z ex sh k n (pc + 1) lv' st σ) : Rn G M R E Z ex sh k n pc lv ((.double x) :: st) σ := fun p l e s m args below meth c H locs ls F => lv_dstore_n F.1 F.2.1 hdg hi F.hl hn rfl (fun ls' h => kk p l e s m args below meth c H locs ls' (F.lv (lv_ins h hl)))
theorem r_dstore {i : Nat} {x : UInt64} (hdg : decode M.2.1 pc = .ok (.dstore i, 2)) (hn : i + 1 < M.2.2.1) (hl : lins i (.double x) (lv.filter (fun q => !(q.1 == i) && (!(q.1 == i + 1) && !(q.1 + 1 == i && q.2.category == 2)))) = lv') (kk : Rn G M R E Z ex sh k n (pc + 2) lv' st σ) : Rn G M R E Z ex sh k n pc lv ((.double x) :: st) σ := fun p l e s m args below meth c H locs ls F => lv_dstore F.1 F.2.1 hdg F.hl hn rfl (fun ls' h => kk p l e s m args below meth c H locs ls' (F.lv (lv_ins h hl)))

theorem r_iinc {i : Nat} {z x : Int} (hdg : decode M.2.1 pc = .ok (.iinc i z, 3)) (hn : i < M.2.2.1) (hx : lv.lookup i = some (I x)) (hl : lins i (I (x + z)) (lv.filter (fun q => !(q.1 == i) && !(q.1 + 1 == i && q.2.category == 2))) = lv')
    (kk : Rn G M R E Z ex sh k n (pc + 3) lv' st σ) : Rn G M R E Z ex sh k n pc lv st σ := by
  intro p l e s m args below meth c H locs ls F
  obtain ⟨j, hj⟩ := List.getElem?_of_mem (lkp_mem hx)
  exact lv_iinc (v := Int32.ofInt (x + z)) F.1 F.2.1 hdg F.hl (k := j) hj (Int32.ofInt_add x z).symm hn rfl (fun ls' h => kk p l e s m args below meth c H locs ls' (F.lv (lv_ins h hl)))
theorem r_sub (ks : List Nat) (hl : lv_pick lv ks = lv') (kk : Rn G M R E Z ex sh k n pc lv' st σ) : Rn G M R E Z ex sh k n pc lv st σ := fun p l e s m args below meth c H locs ls F => kk p l e s m args below meth c H locs ls (F.lv (lv_sub F.hl ks hl))
theorem r_goto {off : Int} {tgt : Nat} (hdg : decode M.2.1 pc = .ok (.goto off, 3)) (ht : (pc : Int) + off = (tgt : Int)) (kk : Rn G M R E Z ex sh k n tgt lv st σ) : Rn G M R E Z ex sh k n pc lv st σ := fun p l e s m args below meth c H locs ls F => lv_goto F.1 F.2.1 hdg ht (kk p l e s m args below meth c H locs ls F)

theorem r_iadd {x y : Int} (hdg : decode M.2.1 pc = .ok (.iadd, 1)) (kk : Rn G M R E Z ex sh k n (pc + 1) lv (I (x + y) :: st) σ) : Rn G M R E Z ex sh k n pc lv (I y :: I x :: st) σ := fun p l e s m args below meth c H locs ls F => lv_iadd F.1 F.2.1 hdg (by have h := kk p l e s m args below meth c H locs ls F; rwa [I, Int32.ofInt_add] at h)
theorem r_isub {x y : Int} (hdg : decode M.2.1 pc = .ok (.isub, 1)) (kk : Rn G M R E Z ex sh k n (pc + 1) lv (I (x - y) :: st) σ) : Rn G M R E Z ex sh k n pc lv (I y :: I x :: st) σ := fun p l e s m args below meth c H locs ls F => lv_isub F.1 F.2.1 hdg (by have h := kk p l e s m args below meth c H locs ls F; rwa [I, Int32.ofInt_sub] at h)
theorem r_imul {x y : Int} (hdg : decode M.2.1 pc = .ok (.imul, 1)) (kk : Rn G M R E Z ex sh k n (pc + 1) lv (I (x * y) :: st) σ) : Rn G M R E Z ex sh k n pc lv (I y :: I x :: st) σ := fun p l e s m args below meth c H locs ls F => lv_imul F.1 F.2.1 hdg (by have h := kk p l e s m args below meth c H locs ls F; rwa [I, Int32.ofInt_mul] at h)

theorem oI_div {x y : Int} (h : 0 ≤ x ∧ x ≤ 2147483647 ∧ 0 < y ∧ y ≤ 2147483647) : Int32.ofInt x / Int32.ofInt y = Int32.ofInt (x / y) := by
  have hx : (Int32.ofInt x).toInt = x := oI (by omega) (by omega)
  have hy : (Int32.ofInt y).toInt = y := oI (by omega) (by omega)
  have h1 : 0 ≤ x / y := Int.ediv_nonneg h.1 (by omega)
  have h2 : x / y ≤ x := Int.ediv_le_self y h.1
  have hne : Int32.ofInt y ≠ -1 := fun q => by
    have := congrArg Int32.toInt q
    rw [hy, show (-1 : Int32).toInt = -1 from rfl] at this
    omega
  rw [← Int32.toInt_inj, Int32.toInt_div_of_ne_right _ _ hne, hx, hy, oI (by omega) (by omega), Int.tdiv_eq_ediv_of_nonneg h.1]
theorem r_idiv {x y : Int} (hdg : decode M.2.1 pc = .ok (.idiv, 1)) (h : 0 ≤ x ∧ x ≤ 2147483647 ∧ 0 < y ∧ y ≤ 2147483647) (kk : Rn G M R E Z ex sh k n (pc + 1) lv (I (x / y) :: st) σ) : Rn G M R E Z ex sh k n pc lv (I y :: I x :: st) σ := by
  intro p l e s m args below meth c H locs ls F
  refine lv_idiv F.1 F.2.1 hdg (fun q => ?_) ?_
  · rw [oI_0, oI_eq (by omega)] at q
    omega
  · have h9 := kk p l e s m args below meth c H locs ls F
    rwa [I, ← oI_div h] at h9
theorem r_irem {x y : Int} (hdg : decode M.2.1 pc = .ok (.irem, 1)) (h : 0 ≤ x ∧ x ≤ 2147483647 ∧ 0 < y ∧ y ≤ 2147483647) (kk : Rn G M R E Z ex sh k n (pc + 1) lv (I (x % y) :: st) σ) : Rn G M R E Z ex sh k n pc lv (I y :: I x :: st) σ := by
  intro p l e s m args below meth c H locs ls F
  refine lv_irem F.1 F.2.1 hdg (fun q => ?_) ?_
  · rw [oI_0, oI_eq (by omega)] at q
    omega
  · have h9 := kk p l e s m args below meth c H locs ls F
    have e9 : Int32.ofInt (x % y) = Int32.ofInt x - Int32.ofInt x / Int32.ofInt y * Int32.ofInt y := by
      rw [oI_div h, ← Int32.ofInt_mul, ← Int32.ofInt_sub, Int.emod_def, Int.mul_comm]
    rwa [I, e9] at h9

theorem r_icmp_lt {x y : Int} {off : Int} {tgt : Nat} (hdg : decode M.2.1 pc = .ok (.if_icmp .lt off, 3)) (ht : (pc : Int) + off = (tgt : Int)) (h : -2147483648 ≤ x ∧ x ≤ 2147483647 ∧ -2147483648 ≤ y ∧ y ≤ 2147483647)
    (kt : x < y → Rn G M R E Z ex sh k n tgt lv st σ) (kf : ¬ (x < y) → Rn G M R E Z ex sh k n (pc + 3) lv st σ) : Rn G M R E Z ex sh k n pc lv (I y :: I x :: st) σ := by
  intro p l e s m args below meth c H locs ls F
  refine lv_icmp_lt F.1 F.2.1 hdg ht (fun q => ?_) (fun q => ?_)
  · skip
    rw [oI_lt (by omega)] at q
    exact kt (by first | exact q | omega) p l e s m args below meth c H locs ls F
  · skip
    rw [oI_lt (by omega)] at q
    exact kf (by first | exact q | omega) p l e s m args below meth c H locs ls F
theorem r_if_lt {x : Int} {off : Int} {tgt : Nat} (hdg : decode M.2.1 pc = .ok (.ifCond .lt off, 3)) (ht : (pc : Int) + off = (tgt : Int)) (h : -2147483648 ≤ x ∧ x ≤ 2147483647)
    (kt : x < 0 → Rn G M R E Z ex sh k n tgt lv st σ) (kf : ¬ (x < 0) → Rn G M R E Z ex sh k n (pc + 3) lv st σ) : Rn G M R E Z ex sh k n pc lv (I x :: st) σ := by
  intro p l e s m args below meth c H locs ls F
  refine lv_if_lt F.1 F.2.1 hdg ht (fun q => ?_) (fun q => ?_)
  · try rw [oI_0] at q
    rw [oI_lt (by omega)] at q
    exact kt (by first | exact q | omega) p l e s m args below meth c H locs ls F
  · try rw [oI_0] at q
    rw [oI_lt (by omega)] at q
    exact kf (by first | exact q | omega) p l e s m args below meth c H locs ls F
theorem r_icmp_le {x y : Int} {off : Int} {tgt : Nat} (hdg : decode M.2.1 pc = .ok (.if_icmp .le off, 3)) (ht : (pc : Int) + off = (tgt : Int)) (h : -2147483648 ≤ x ∧ x ≤ 2147483647 ∧ -2147483648 ≤ y ∧ y ≤ 2147483647)
    (kt : x ≤ y → Rn G M R E Z ex sh k n tgt lv st σ) (kf : ¬ (x ≤ y) → Rn G M R E Z ex sh k n (pc + 3) lv st σ) : Rn G M R E Z ex sh k n pc lv (I y :: I x :: st) σ := by
  intro p l e s m args below meth c H locs ls F
  refine lv_icmp_le F.1 F.2.1 hdg ht (fun q => ?_) (fun q => ?_)
  · skip
    rw [oI_le (by omega)] at q
    exact kt (by first | exact q | omega) p l e s m args below meth c H locs ls F
  · skip
    rw [oI_le (by omega)] at q
    exact kf (by first | exact q | omega) p l e s m args below meth c H locs ls F
theorem r_if_le {x : Int} {off : Int} {tgt : Nat} (hdg : decode M.2.1 pc = .ok (.ifCond .le off, 3)) (ht : (pc : Int) + off = (tgt : Int)) (h : -2147483648 ≤ x ∧ x ≤ 2147483647)
    (kt : x ≤ 0 → Rn G M R E Z ex sh k n tgt lv st σ) (kf : ¬ (x ≤ 0) → Rn G M R E Z ex sh k n (pc + 3) lv st σ) : Rn G M R E Z ex sh k n pc lv (I x :: st) σ := by
  intro p l e s m args below meth c H locs ls F
  refine lv_if_le F.1 F.2.1 hdg ht (fun q => ?_) (fun q => ?_)
  · try rw [oI_0] at q
    rw [oI_le (by omega)] at q
    exact kt (by first | exact q | omega) p l e s m args below meth c H locs ls F
  · try rw [oI_0] at q
    rw [oI_le (by omega)] at q
    exact kf (by first | exact q | omega) p l e s m args below meth c H locs ls F
theorem r_icmp_eq {x y : Int} {off : Int} {tgt : Nat} (hdg : decode M.2.1 pc = .ok (.if_icmp .eq off, 3)) (ht : (pc : Int) + off = (tgt : Int)) (h : -2147483648 ≤ x ∧ x ≤ 2147483647 ∧ -2147483648 ≤ y ∧ y ≤ 2147483647)
    (kt : x = y → Rn G M R E Z ex sh k n tgt lv st σ) (kf : ¬ (x = y) → Rn G M R E Z ex sh k n (pc + 3) lv st σ) : Rn G M R E Z ex sh k n pc lv (I y :: I x :: st) σ := by
  intro p l e s m args below meth c H locs ls F
  refine lv_icmp_eq F.1 F.2.1 hdg ht (fun q => ?_) (fun q => ?_)
  · skip
    rw [oI_eq (by omega)] at q
    exact kt (by first | exact q | omega) p l e s m args below meth c H locs ls F
  · skip
    rw [oI_eq (by omega)] at q
    exact kf (by first | exact q | omega) p l e s m args below meth c H locs ls F
theorem r_if_eq {x : Int} {off : Int} {tgt : Nat} (hdg : decode M.2.1 pc = .ok (.ifCond .eq off, 3)) (ht : (pc : Int) + off = (tgt : Int)) (h : -2147483648 ≤ x ∧ x ≤ 2147483647)
    (kt : x = 0 → Rn G M R E Z ex sh k n tgt lv st σ) (kf : ¬ (x = 0) → Rn G M R E Z ex sh k n (pc + 3) lv st σ) : Rn G M R E Z ex sh k n pc lv (I x :: st) σ := by
  intro p l e s m args below meth c H locs ls F
  refine lv_if_eq F.1 F.2.1 hdg ht (fun q => ?_) (fun q => ?_)
  · try rw [oI_0] at q
    rw [oI_eq (by omega)] at q
    exact kt (by first | exact q | omega) p l e s m args below meth c H locs ls F
  · try rw [oI_0] at q
    rw [oI_eq (by omega)] at q
    exact kf (by first | exact q | omega) p l e s m args below meth c H locs ls F
theorem r_icmp_gt {x y : Int} {off : Int} {tgt : Nat} (hdg : decode M.2.1 pc = .ok (.if_icmp .gt off, 3)) (ht : (pc : Int) + off = (tgt : Int)) (h : -2147483648 ≤ x ∧ x ≤ 2147483647 ∧ -2147483648 ≤ y ∧ y ≤ 2147483647)
    (kt : y < x → Rn G M R E Z ex sh k n tgt lv st σ) (kf : ¬ (y < x) → Rn G M R E Z ex sh k n (pc + 3) lv st σ) : Rn G M R E Z ex sh k n pc lv (I y :: I x :: st) σ := by
  intro p l e s m args below meth c H locs ls F
  refine lv_icmp_gt F.1 F.2.1 hdg ht (fun q => ?_) (fun q => ?_)
  · skip
    rw [oI_lt (by omega)] at q
    exact kt (by first | exact q | omega) p l e s m args below meth c H locs ls F
  · skip
    rw [oI_lt (by omega)] at q
    exact kf (by first | exact q | omega) p l e s m args below meth c H locs ls F
theorem r_if_gt {x : Int} {off : Int} {tgt : Nat} (hdg : decode M.2.1 pc = .ok (.ifCond .gt off, 3)) (ht : (pc : Int) + off = (tgt : Int)) (h : -2147483648 ≤ x ∧ x ≤ 2147483647)
    (kt : 0 < x → Rn G M R E Z ex sh k n tgt lv st σ) (kf : ¬ (0 < x) → Rn G M R E Z ex sh k n (pc + 3) lv st σ) : Rn G M R E Z ex sh k n pc lv (I x :: st) σ := by
  intro p l e s m args below meth c H locs ls F
  refine lv_if_gt F.1 F.2.1 hdg ht (fun q => ?_) (fun q => ?_)
  · try rw [oI_0] at q
    rw [oI_lt (by omega)] at q
    exact kt (by first | exact q | omega) p l e s m args below meth c H locs ls F
  · try rw [oI_0] at q
    rw [oI_lt (by omega)] at q
    exact kf (by first | exact q | omega) p l e s m args below meth c H locs ls F
theorem r_icmp_ge {x y : Int} {off : Int} {tgt : Nat} (hdg : decode M.2.1 pc = .ok (.if_icmp .ge off, 3)) (ht : (pc : Int) + off = (tgt : Int)) (h : -2147483648 ≤ x ∧ x ≤ 2147483647 ∧ -2147483648 ≤ y ∧ y ≤ 2147483647)
    (kt : y ≤ x → Rn G M R E Z ex sh k n tgt lv st σ) (kf : ¬ (y ≤ x) → Rn G M R E Z ex sh k n (pc + 3) lv st σ) : Rn G M R E Z ex sh k n pc lv (I y :: I x :: st) σ := by
  intro p l e s m args below meth c H locs ls F
  refine lv_icmp_ge F.1 F.2.1 hdg ht (fun q => ?_) (fun q => ?_)
  · skip
    rw [oI_le (by omega)] at q
    exact kt (by first | exact q | omega) p l e s m args below meth c H locs ls F
  · skip
    rw [oI_le (by omega)] at q
    exact kf (by first | exact q | omega) p l e s m args below meth c H locs ls F
theorem r_if_ge {x : Int} {off : Int} {tgt : Nat} (hdg : decode M.2.1 pc = .ok (.ifCond .ge off, 3)) (ht : (pc : Int) + off = (tgt : Int)) (h : -2147483648 ≤ x ∧ x ≤ 2147483647)
    (kt : 0 ≤ x → Rn G M R E Z ex sh k n tgt lv st σ) (kf : ¬ (0 ≤ x) → Rn G M R E Z ex sh k n (pc + 3) lv st σ) : Rn G M R E Z ex sh k n pc lv (I x :: st) σ := by
  intro p l e s m args below meth c H locs ls F
  refine lv_if_ge F.1 F.2.1 hdg ht (fun q => ?_) (fun q => ?_)
  · try rw [oI_0] at q
    rw [oI_le (by omega)] at q
    exact kt (by first | exact q | omega) p l e s m args below meth c H locs ls F
  · try rw [oI_0] at q
    rw [oI_le (by omega)] at q
    exact kf (by first | exact q | omega) p l e s m args below meth c H locs ls F
theorem r_icmp_ne {x y : Int} {off : Int} {tgt : Nat} (hdg : decode M.2.1 pc = .ok (.if_icmp .ne off, 3)) (ht : (pc : Int) + off = (tgt : Int)) (h : -2147483648 ≤ x ∧ x ≤ 2147483647 ∧ -2147483648 ≤ y ∧ y ≤ 2147483647)
    (kt : ¬ x = y → Rn G M R E Z ex sh k n tgt lv st σ) (kf : ¬ (¬ x = y) → Rn G M R E Z ex sh k n (pc + 3) lv st σ) : Rn G M R E Z ex sh k n pc lv (I y :: I x :: st) σ := by
  intro p l e s m args below meth c H locs ls F
  refine lv_icmp_ne F.1 F.2.1 hdg ht (fun q => ?_) (fun q => ?_)
  · skip
    rw [oI_eq (by omega)] at q
    exact kt (by first | exact q | omega) p l e s m args below meth c H locs ls F
  · skip
    rw [oI_eq (by omega)] at q
    exact kf (by first | exact q | omega) p l e s m args below meth c H locs ls F
theorem r_if_ne {x : Int} {off : Int} {tgt : Nat} (hdg : decode M.2.1 pc = .ok (.ifCond .ne off, 3)) (ht : (pc : Int) + off = (tgt : Int)) (h : -2147483648 ≤ x ∧ x ≤ 2147483647)
    (kt : ¬ x = 0 → Rn G M R E Z ex sh k n tgt lv st σ) (kf : ¬ (¬ x = 0) → Rn G M R E Z ex sh k n (pc + 3) lv st σ) : Rn G M R E Z ex sh k n pc lv (I x :: st) σ := by
  intro p l e s m args below meth c H locs ls F
  refine lv_if_ne F.1 F.2.1 hdg ht (fun q => ?_) (fun q => ?_)
  · try rw [oI_0] at q
    rw [oI_eq (by omega)] at q
    exact kt (by first | exact q | omega) p l e s m args below meth c H locs ls F
  · try rw [oI_0] at q
    rw [oI_eq (by omega)] at q
    exact kf (by first | exact q | omega) p l e s m args below meth c H locs ls F
end ROWS
