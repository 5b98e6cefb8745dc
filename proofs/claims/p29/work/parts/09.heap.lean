section ROWS2
variable {G : GT} {M : MI} {R : Room} {E : ET} {Z : ZT} {ex : Bool} {sh : List Ob} {k n : Nat} {pc : Nat} {lv lv' : List (Nat × Value)} {st : List Value} {σ : Sg}

theorem cv_set {B : Nat} {fks : List FK} {j : Nat} {fk fk1 : FK} {f : Int → Int} {z : Int} (h : fks[j]? = some fk) : (fks.mapIdx (fun i q => cvF B q (f (i : Int)))).set j (cvF B fk1 z) = (fks.set j fk1).mapIdx (fun i q => cvF B q (if (i : Int) = (j : Int) then z else f (i : Int))) := by
  have hl := (List.getElem?_eq_some_iff.mp h).1
  apply List.ext_getElem?
  intro i
  by_cases hi : i = j
  · subst hi
    rw [List.getElem?_set_self (by simpa using hl), List.getElem?_mapIdx, List.getElem?_set_self hl]
    simp
  · rw [List.getElem?_set_ne (Ne.symm hi), List.getElem?_mapIdx, List.getElem?_mapIdx, List.getElem?_set_ne (Ne.symm hi)]
    have h9 : ¬ (i : Int) = (j : Int) := by omega
    simp [h9]
theorem fk_same {fks : List FK} {j : Nat} {fk : FK} (h : fks[j]? = some fk) : fks.set j fk = fks := by
  apply List.ext_getElem?
  intro k
  by_cases hk : k = j
  · subst hk
    rw [List.getElem?_set_self (List.getElem?_eq_some_iff.mp h).1, h]
  · rw [List.getElem?_set_ne (Ne.symm hk)]
theorem up_row {σ : Sg} {a : Nat} {i z : Int} : up σ a i z a = fun j => if j = i then z else σ a j := by funext j; exact up_at
theorem r_getf {a ci j N idx : Nat} {z : Int} {fks : List FK} {C : String} {T : u_T} {fk : FK} {v : Value} (hdg : decode M.2.1 pc = .ok (.getfield idx, 3)) (hs : sh[a]? = some (.inl (ci, fks))) (hf : fks[j]? = some fk) (hc : vwCl[ci]? = some (C, T, N)) (hj : j < N) (hz : (j : Int) = z)
    (hin : ∀ w ∈ u_ws C T N, w ∈ TBG) (hlink : Cond.fieldLink M.1.cls idx C (T j).2.1 (T j).2.2.1 ∈ TBG) (hC : C = (T j).1) (hv : cvF G.1 fk (σ a z) = v) (kk : Rn G M R E Z ex sh k n (pc + 3) lv (v :: st) σ) : Rn G M R E Z ex sh k n pc lv (Rf G a :: st) σ := by
  intro p l e s m args below meth c H locs ls F
  subst hz hv
  refine va_get (D := G.2.1) (ci := ci) (v := cvF G.1 fk (σ a j)) (C := C) (T := T) (N := N) F.1 F.2.1 F.wd hin F.own F.tb.1 F.hw.1 a (wl_get hs) hc j hj (F.wd _ hlink) (fun x9 h9 => by rw [hC]; exact h9) ?_ hdg (kk p l e s m args below meth c H locs ls F)
  simp [List.getElem?_mapIdx, hf]
theorem r_getI {a ci j N idx : Nat} {z : Int} {fks : List FK} {C : String} {T : u_T} (hdg : decode M.2.1 pc = .ok (.getfield idx, 3)) (hs : sh[a]? = some (.inl (ci, fks))) (hf : fks[j]? = some (.inl false)) (hc : vwCl[ci]? = some (C, T, N)) (hj : j < N) (hz : (j : Int) = z)
    (hin : ∀ w ∈ u_ws C T N, w ∈ TBG) (hlink : Cond.fieldLink M.1.cls idx C (T j).2.1 (T j).2.2.1 ∈ TBG) (hC : C = (T j).1) {x : Int} (hv : σ a z = x) (kk : Rn G M R E Z ex sh k n (pc + 3) lv (I x :: st) σ) : Rn G M R E Z ex sh k n pc lv (Rf G a :: st) σ := r_getf hdg hs hf hc hj hz hin hlink hC (by rw [hv]; rfl) kk
theorem r_getL {a ci j N idx : Nat} {z : Int} {fks : List FK} {C : String} {T : u_T} (hdg : decode M.2.1 pc = .ok (.getfield idx, 3)) (hs : sh[a]? = some (.inl (ci, fks))) (hf : fks[j]? = some (.inl true)) (hc : vwCl[ci]? = some (C, T, N)) (hj : j < N) (hz : (j : Int) = z)
    (hin : ∀ w ∈ u_ws C T N, w ∈ TBG) (hlink : Cond.fieldLink M.1.cls idx C (T j).2.1 (T j).2.2.1 ∈ TBG) (hC : C = (T j).1) {x : Int} (hv : σ a z = x) (kk : Rn G M R E Z ex sh k n (pc + 3) lv (Lg x :: st) σ) : Rn G M R E Z ex sh k n pc lv (Rf G a :: st) σ := r_getf hdg hs hf hc hj hz hin hlink hC (by rw [hv]; rfl) kk
theorem r_getR {a ci j N idx b : Nat} {fks : List FK} {C : String} {T : u_T} (hdg : decode M.2.1 pc = .ok (.getfield idx, 3)) (hs : sh[a]? = some (.inl (ci, fks))) (hf : fks[j]? = some (.inr (some b))) (hc : vwCl[ci]? = some (C, T, N)) (hj : j < N)
    (hin : ∀ w ∈ u_ws C T N, w ∈ TBG) (hlink : Cond.fieldLink M.1.cls idx C (T j).2.1 (T j).2.2.1 ∈ TBG) (hC : C = (T j).1) (kk : Rn G M R E Z ex sh k n (pc + 3) lv (Rf G b :: st) σ) : Rn G M R E Z ex sh k n pc lv (Rf G a :: st) σ := r_getf hdg hs hf hc hj rfl hin hlink hC rfl kk
theorem put_hw {ci a j N : Nat} {w : Int} {fks : List FK} {fk fk1 : FK} {C : String} {T : u_T} {H H1 : Heap} {cell : Cell} {s : State} {own : String} (ty0 : Nat → FieldType) (hK : va_K G.2.1 vwCl (tysG G) s) (hts : ∀ w ∈ TBG, w.before #[] s = true) (hin : ∀ w ∈ u_ws C T N, w ∈ TBG) (hty : ∀ k, k < N → parseFieldDescriptor (T k).2.2.1 = some (ty0 k)) (hnm : ∀ a, a < N → ∀ b, b < N → a ≠ b → (T a).2.1 ≠ (T b).2.1)
    (hF : Hw G ex sh σ H) (hs : sh[a]? = some (.inl (ci, fks))) (hf : fks[j]? = some fk) (hc : vwCl[ci]? = some (C, T, N)) (hj : j < N) (hcell : H[G.1 + a]? = some cell) (e1 : H1[G.1 + a]? = some (cell.setSlot (G.2.1.2 ci j) (cvF G.1 fk1 w))) (e2 : H1.size = H.size) (e3 : ∀ q, q ≠ G.1 + a → H1[q]? = H[q]?) :
    Hw G ex (sh.set a (.inl (ci, fks.set j fk1))) (up σ a j w) H1 := by
  have hap := va_apart (own := own) hts hin ty0 hty hnm hK hc
  refine ⟨?_, fun q => by rw [e2, List.length_set]; exact hF.2 q⟩
  have he := wl_get (G := G) (σ := σ) hs
  obtain ⟨r, h1, cell', q1, q2, q3, q4⟩ := hF.1 a _ he
  cases hcell.symm.trans q1
  have hr : r = (C, T, N) := Option.some.inj (h1.symm.trans hc)
  subst hr
  have hl : j < (fks.mapIdx (fun j fk => cvF G.1 fk (σ a (j : Int)))).length := by
    have := (List.getElem?_eq_some_iff.mp hf).1
    simpa using this
  have e9 := wl_set (G := G) (σ := σ) (σ' := up σ a (j : Int) w) (o' := .inl (ci, fks.set j fk1)) hs (fun b hb => up_ne hb)
  rw [← e9]
  have h8 := hF.1.set (A := Aq G) (e := .inr (ci, (fks.mapIdx (fun j fk => cvF G.1 fk (σ a (j : Int)))).set j (cvF G.1 fk1 w))) wl_D he ⟨_, hc, t_OB.to (V := updV (vp_V (fks.mapIdx (fun j fk => cvF G.1 fk (σ a (j : Int))))) j (cvF G.1 fk1 w)) ⟨_, e1, q2, q3, t_set q4 hap hj _⟩ (fun i _ => vp_updV_set hl _ i)⟩ e3
  rw [cv_set hf] at h8
  rw [up_row]
  exact h8
theorem r_putf {a ci j N idx : Nat} {z w : Int} {fks : List FK} {C : String} {T : u_T} {fk fk1 : FK} {v : Value} {ty : FieldType} (ty0 : Nat → FieldType) (hdg : decode M.2.1 pc = .ok (.putfield idx, 3)) (hs : sh[a]? = some (.inl (ci, fks))) (hf : fks[j]? = some fk) (hc : vwCl[ci]? = some (C, T, N)) (hj : j < N) (hz : (j : Int) = z)
    (hty : ∀ k, k < N → parseFieldDescriptor (T k).2.2.1 = some (ty0 k)) (hnm : ∀ a, a < N → ∀ b, b < N → a ≠ b → (T a).2.1 ≠ (T b).2.1)
    (hin : ∀ w ∈ u_ws C T N, w ∈ TBG) (hlink : Cond.fieldLink M.1.cls idx C (T j).2.1 (T j).2.2.1 ∈ TBG) (hC : C = (T j).1) (hfin : (T j).2.2.2 = false) (hty1 : ty0 j = ty) (hv : cvF G.1 fk1 w = v) (hnar : narrow ty v = v) (hfit : fits ty v = true)
    (kk : Rn G M R E Z ex (sh.set a (.inl (ci, fks.set j fk1))) k n (pc + 3) lv st (up σ a z w)) : Rn G M R E Z ex sh k n pc lv (v :: Rf G a :: st) σ := by
  intro p l e s m args below meth c H locs ls F
  subst hz hv hty1
  obtain ⟨r, h1, cell, q1, q2, q3, q4⟩ := F.hw.1 a _ (wl_get hs)
  have hr : r = (C, T, N) := Option.some.inj (h1.symm.trans hc)
  subst hr
  obtain ⟨hS, hfc, kC, hkC, hkind⟩ := F.tb.1.1 ci _ hc
  obtain ⟨cf, kf, fi, f, hi, hsl⟩ := hS j hj
  have hlay := F.wd _ (hin _ (u_in_lay hj))
  unfold u_lay at hlay
  rw [if_neg (by rw [hfin]; decide)] at hlay
  have hst := (u_facts hfc hkC (u_lays F.wd hin hj) hi).1
  have h6 := u_store hfc hkC hkind hlay hi (hty j hj) hnar hfit
  refine W.putK F.1 F.2.1 (f := f) ⟨F.own, F.wd _ hlink, ⟨_, _, _, by rw [hC]; exact hi⟩, hst⟩ (by rw [q2]; exact h6) q1 q3 (by rw [hsl]; exact k2_hasslot (q4 j hj)) rfl rfl hdg fun H1 e1 e2 e3 => ?_
  rw [hsl] at e1 ⊢
  exact kk p l e s m args below meth c H1 _ ls (F.hp (put_hw (own := M.1.cls) ty0 F.tb.1 F.tb.2.1 hin hty hnm F.hw hs hf hc hj q1 e1 e2 e3) (F.fs.put e2 e3 Aq_in))
theorem r_putI {a ci j N idx : Nat} {z w : Int} {fks : List FK} {C : String} {T : u_T} (ty0 : Nat → FieldType) (hdg : decode M.2.1 pc = .ok (.putfield idx, 3)) (hs : sh[a]? = some (.inl (ci, fks))) (hf : fks[j]? = some (.inl false)) (hc : vwCl[ci]? = some (C, T, N)) (hj : j < N) (hz : (j : Int) = z)
    (hty : ∀ k, k < N → parseFieldDescriptor (T k).2.2.1 = some (ty0 k)) (hnm : ∀ a, a < N → ∀ b, b < N → a ≠ b → (T a).2.1 ≠ (T b).2.1)
    (hin : ∀ w ∈ u_ws C T N, w ∈ TBG) (hlink : Cond.fieldLink M.1.cls idx C (T j).2.1 (T j).2.2.1 ∈ TBG) (hC : C = (T j).1) (hfin : (T j).2.2.2 = false) (hty1 : ty0 j = .int)
    (kk : Rn G M R E Z ex sh k n (pc + 3) lv st (up σ a z w)) : Rn G M R E Z ex sh k n pc lv (I w :: Rf G a :: st) σ := by
  refine r_putf (fk1 := .inl false) ty0 hdg hs hf hc hj hz hty hnm hin hlink hC hfin hty1 rfl rfl rfl ?_
  rw [fk_same hf, set_same hs]
  exact kk
theorem r_putL {a ci j N idx : Nat} {z w : Int} {fks : List FK} {C : String} {T : u_T} (ty0 : Nat → FieldType) (hdg : decode M.2.1 pc = .ok (.putfield idx, 3)) (hs : sh[a]? = some (.inl (ci, fks))) (hf : fks[j]? = some (.inl true)) (hc : vwCl[ci]? = some (C, T, N)) (hj : j < N) (hz : (j : Int) = z)
    (hty : ∀ k, k < N → parseFieldDescriptor (T k).2.2.1 = some (ty0 k)) (hnm : ∀ a, a < N → ∀ b, b < N → a ≠ b → (T a).2.1 ≠ (T b).2.1)
    (hin : ∀ w ∈ u_ws C T N, w ∈ TBG) (hlink : Cond.fieldLink M.1.cls idx C (T j).2.1 (T j).2.2.1 ∈ TBG) (hC : C = (T j).1) (hfin : (T j).2.2.2 = false) (hty1 : ty0 j = .long)
    (kk : Rn G M R E Z ex sh k n (pc + 3) lv st (up σ a z w)) : Rn G M R E Z ex sh k n pc lv (Lg w :: Rf G a :: st) σ := by
  refine r_putf (fk1 := .inl true) ty0 hdg hs hf hc hj hz hty hnm hin hlink hC hfin hty1 rfl rfl rfl ?_
  rw [fk_same hf, set_same hs]
  exact kk
/-- a final reference, in a constructor -/
theorem r_putRF {a ci j N idx b : Nat} {fks : List FK} {C : String} {T : u_T} {fk : FK} {ty : FieldType} (ty0 : Nat → FieldType) (hdg : decode M.2.1 pc = .ok (.putfield idx, 3)) (hs : sh[a]? = some (.inl (ci, fks))) (hf : fks[j]? = some fk) (hc : vwCl[ci]? = some (C, T, N)) (hj : j < N)
    (hty : ∀ k, k < N → parseFieldDescriptor (T k).2.2.1 = some (ty0 k)) (hnm : ∀ a, a < N → ∀ b, b < N → a ≠ b → (T a).2.1 ≠ (T b).2.1)
    (hin : ∀ w ∈ u_ws C T N, w ∈ TBG) (hlink : Cond.fieldLink M.1.cls idx C (T j).2.1 (T j).2.2.1 ∈ TBG) (hC : C = (T j).1) (hfin : (T j).2.2.2 = true) (hin2 : M.1.name = "<init>") (hcl : M.1.cls = C) (hty1 : ty0 j = ty) (hnar : narrow ty (Rf G b) = Rf G b) (hfit : fits ty (Rf G b) = true)
    (kk : Rn G M R E Z ex (sh.set a (.inl (ci, fks.set j (.inr (some b))))) k n (pc + 3) lv st (up σ a j 0)) : Rn G M R E Z ex sh k n pc lv (Rf G b :: Rf G a :: st) σ := by
  intro p l e s m args below meth c H locs ls F
  subst hty1
  obtain ⟨r, h1, cell, q1, q2, q3, q4⟩ := F.hw.1 a _ (wl_get hs)
  have hr : r = (C, T, N) := Option.some.inj (h1.symm.trans hc)
  subst hr
  obtain ⟨hS, hfc, kC, hkC, hkind⟩ := F.tb.1.1 ci _ hc
  obtain ⟨cf, kf, fi, f, hi, hsl⟩ := hS j hj
  have hlay := F.wd _ (hin _ (u_in_lay hj))
  unfold u_lay at hlay
  rw [if_pos hfin] at hlay
  have hst := (u_facts hfc hkC (u_lays F.wd hin hj) hi).1
  have hcf : m.cls = cf := by
    obtain ⟨_, _, c', _, _, _, -, -, hf', -, -, -, hown2, -⟩ := Cond.laysFinal_spec hlay
    have e1 : c' = cf := by have := hi.symm.trans hf'; simp at this; exact this.1.symm
    rw [← hC, ← hcl] at hown2
    rw [← e1]; exact Option.some.inj (F.own.symm.trans hown2)
  have h6 := u_fits hfc hkC hkind (Or.inr hlay) hi (hty j hj) hnar hfit
  refine W.putFinK F.1 F.2.1 F.own (F.wd _ hlink) (by rw [hC]; exact hi) hst hcf (by rw [F.2.2.2.2.2.2.2.2.2.2.2.1]; exact hin2) (by rw [q2]; exact h6) q1 q3 (by rw [hsl]; exact k2_hasslot (q4 j hj)) rfl rfl hdg fun H1 e1 e2 e3 => ?_
  rw [hsl] at e1 ⊢
  exact kk p l e s m args below meth c H1 _ ls (F.hp (put_hw (fk1 := .inr (some b)) (w := 0) (own := M.1.cls) ty0 F.tb.1 F.tb.2.1 hin hty hnm F.hw hs hf hc hj q1 e1 e2 e3) (F.fs.put e2 e3 Aq_in))
theorem r_iald {a N : Nat} {i : Int} (hdg : decode M.2.1 pc = .ok (.iaload, 1)) (hs : sh[a]? = some (.inr (.inl N))) (hi : 0 ≤ i ∧ i < (N : Int) ∧ (N : Int) ≤ 2147483647) {x : Int} (hv : σ a i = x) (kk : Rn G M R E Z ex sh k n (pc + 1) lv (I x :: st) σ) : Rn G M R E Z ex sh k n pc lv (I i :: Rf G a :: st) σ := by
  intro p l e s m args below meth c H locs ls F
  subst hv
  refine va_iald (D := G.2.1) F.1 F.2.1 F.tb.1 F.hw.1 a 0 (wl_get hs) rfl (oI_in hi) hdg ?_
  have h9 := kk p l e s m args below meth c H locs ls F
  show W p l e R s m args below meth c H locs k n (Z below args s) (F0 m (pc + 1) ls (.int (Int32.ofInt (σ a ((Int32.ofInt i).toNatClampNeg : Int))) :: st))
  rw [oI_nat hi.1 (by omega)]
  exact h9
theorem r_lald {a N : Nat} {i : Int} (hdg : decode M.2.1 pc = .ok (.laload, 1)) (hs : sh[a]? = some (.inr (.inr (.inl N)))) (hi : 0 ≤ i ∧ i < (N : Int) ∧ (N : Int) ≤ 2147483647) {x : Int} (hv : σ a i = x) (kk : Rn G M R E Z ex sh k n (pc + 1) lv (Lg x :: st) σ) : Rn G M R E Z ex sh k n pc lv (I i :: Rf G a :: st) σ := by
  intro p l e s m args below meth c H locs ls F
  subst hv
  refine va_lald (D := G.2.1) F.1 F.2.1 F.tb.1 F.hw.1 a 1 (wl_get hs) rfl (oI_in hi) hdg ?_
  have h9 := kk p l e s m args below meth c H locs ls F
  show W p l e R s m args below meth c H locs k n (Z below args s) (F0 m (pc + 1) ls (.long (Int64.ofInt (σ a ((Int32.ofInt i).toNatClampNeg : Int))) :: st))
  rw [oI_nat hi.1 (by omega)]
  exact h9
theorem r_alen {a N : Nat} (hdg : decode M.2.1 pc = .ok (.arraylength, 1)) (hs : sh[a]? = some (.inr (.inl N))) (kk : Rn G M R E Z ex sh k n (pc + 1) lv (I (N : Int) :: st) σ) : Rn G M R E Z ex sh k n pc lv (Rf G a :: st) σ := by
  intro p l e s m args below meth c H locs ls F
  exact va_alen (D := G.2.1) F.1 F.2.1 F.tb.1 F.hw.1 a 0 (wl_get hs) rfl (v := Int32.ofInt (N : Int)) (by exact (Int32.ofInt_eq_ofNat (n := N)).symm) hdg (kk p l e s m args below meth c H locs ls F)
theorem r_alenq {a N : Nat} {g : Nat → Option Nat} (hdg : decode M.2.1 pc = .ok (.arraylength, 1)) (hs : sh[a]? = some (.inr (.inr (.inr (N, g))))) (kk : Rn G M R E Z ex sh k n (pc + 1) lv (I (N : Int) :: st) σ) : Rn G M R E Z ex sh k n pc lv (Rf G a :: st) σ := by
  intro p l e s m args below meth c H locs ls F
  exact va_alen (D := G.2.1) F.1 F.2.1 F.tb.1 F.hw.1 a 2 (wl_get hs) rfl (v := Int32.ofInt (N : Int)) (by exact (Int32.ofInt_eq_ofNat (n := N)).symm) hdg (kk p l e s m args below meth c H locs ls F)
theorem r_aald {a N b : Nat} {i : Int} {g : Nat → Option Nat} (hdg : decode M.2.1 pc = .ok (.aaload, 1)) (hs : sh[a]? = some (.inr (.inr (.inr (N, g))))) (hi : 0 ≤ i ∧ i < (N : Int) ∧ (N : Int) ≤ 2147483647) (hg : g i.toNat = some b) (kk : Rn G M R E Z ex sh k n (pc + 1) lv (Rf G b :: st) σ) : Rn G M R E Z ex sh k n pc lv (I i :: Rf G a :: st) σ := by
  intro p l e s m args below meth c H locs ls F
  refine va_aldq (D := G.2.1) F.1 F.2.1 F.tb.1 F.hw.1 a 2 (wl_get hs) rfl (oI_in hi) hdg ?_
  have h9 := kk p l e s m args below meth c H locs ls F
  have e9 : (Int32.ofInt i).toNatClampNeg = i.toNat := by have := oI_nat hi.1 (by omega); omega
  show W p l e R s m args below meth c H locs k n (Z below args s) (F0 m (pc + 1) ls (va_rf ((g (Int32.ofInt i).toNatClampNeg).map (fun k => G.1 + k)) :: st))
  rw [e9, hg]
  exact h9
theorem hw_set {a : Nat} {o : Ob} {i w : Int} {e0 : va_E} {H H1 : Heap} (hF : Hw G ex sh σ H) (hs : sh[a]? = some o) (he : ent G (up σ a i w a) o = e0) (h1 : va_at G.2.1 vwCl (G.1 + a, e0) H1) (z : H1.size = H.size) (oq : ∀ q, q ≠ G.1 + a → H1[q]? = H[q]?) : Hw G ex sh (up σ a i w) H1 := by
  refine ⟨?_, fun q => by rw [z]; exact hF.2 q⟩
  rw [← wl_set0 (σ := σ) hs (fun b hb => up_ne hb)]
  exact hF.1.set (A := Aq G) wl_D (wl_get hs) (by rw [he]; exact h1) oq
theorem r_iast {a N : Nat} {i w : Int} (hdg : decode M.2.1 pc = .ok (.iastore, 1)) (hs : sh[a]? = some (.inr (.inl N))) (hi : 0 ≤ i ∧ i < (N : Int) ∧ (N : Int) ≤ 2147483647) (kk : Rn G M R E Z ex sh k n (pc + 1) lv st (up σ a i w)) : Rn G M R E Z ex sh k n pc lv (I w :: I i :: Rf G a :: st) σ := by
  intro p l e s m args below meth c H locs ls F
  have hcell : va_at G.2.1 vwCl (G.1 + a, ent G (σ a) (.inr (.inl N))) H := F.hw.1 a _ (wl_get hs)
  refine W.iast F.1 F.2.1 hcell ((F.tb.1.2 0 _ rfl).1 N (fun j => .int (Int32.ofInt (σ a (j : Int))))) (fun q => by cases q) (by show ¬ (_ ∨ (arrV _ _ _).slots.size ≤ _); rw [arrV_size]; exact oI_in hi) rfl rfl hdg fun H1 e9 z oq => ?_
  refine kk p l e s m args below meth c H1 _ ls (F.hp (hw_set F.hw hs rfl ?_ z oq) (F.fs.put z oq Aq_in))
  show H1[G.1 + a]? = some (vp_cell _ _)
  rw [e9]
  rw [vp_cell_i, vp_cell_i, arrV_store]
  congr 2
  funext q
  have h9 := oI_nat hi.1 (by omega)
  by_cases hq : q = (Int32.ofInt i).toNatClampNeg
  · subst hq
    simp [updV, up_at, h9]
  · have h8 : ¬ (q : Int) = i := by omega
    simp [updV, up_at, hq, h8]
theorem r_last {a N : Nat} {i w : Int} (hdg : decode M.2.1 pc = .ok (.lastore, 1)) (hs : sh[a]? = some (.inr (.inr (.inl N)))) (hi : 0 ≤ i ∧ i < (N : Int) ∧ (N : Int) ≤ 2147483647) (kk : Rn G M R E Z ex sh k n (pc + 1) lv st (up σ a i w)) : Rn G M R E Z ex sh k n pc lv (Lg w :: I i :: Rf G a :: st) σ := by
  intro p l e s m args below meth c H locs ls F
  have hcell : va_at G.2.1 vwCl (G.1 + a, ent G (σ a) (.inr (.inr (.inl N)))) H := F.hw.1 a _ (wl_get hs)
  refine W.last F.1 F.2.1 hcell ((F.tb.1.2 1 _ rfl).1 N (fun j => .long (Int64.ofInt (σ a (j : Int))))) (fun q => by cases q) (by show ¬ (_ ∨ (arrV _ _ _).slots.size ≤ _); rw [arrV_size]; exact oI_in hi) rfl rfl hdg fun H1 e9 z oq => ?_
  refine kk p l e s m args below meth c H1 _ ls (F.hp (hw_set F.hw hs rfl ?_ z oq) (F.fs.put z oq Aq_in))
  show H1[G.1 + a]? = some (vp_cell _ _)
  rw [e9]
  rw [vp_cell_l, vp_cell_l, arrV_store]
  congr 2
  funext q
  have h9 := oI_nat hi.1 (by omega)
  by_cases hq : q = (Int32.ofInt i).toNatClampNeg
  · subst hq
    simp [updV, up_at, h9]
  · have h8 : ¬ (q : Int) = i := by omega
    simp [updV, up_at, hq, h8]

end ROWS2
