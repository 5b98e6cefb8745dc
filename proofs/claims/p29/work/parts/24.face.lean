variable {Ω : List Ob}

/-! more rows -/
def bm (x : Int) : Int := Int.bmod x 4294967296
theorem bm_bd {x : Int} : -2147483648 ≤ bm x ∧ bm x ≤ 2147483647 := by
  have h1 := Int.le_bmod (x := x) (m := 4294967296) (by decide)
  have h2 := Int.bmod_lt (x := x) (m := 4294967296) (by decide)
  unfold bm
  omega
theorem bm_I {x : Int} : Int32.ofInt (bm x) = Int32.ofInt x := by
  apply Int32.toInt_inj.mp
  rw [Int32.toInt_ofInt, Int32.toInt_ofInt]
  show Int.bmod (Int.bmod x 4294967296) 4294967296 = Int.bmod x 4294967296
  exact Int.bmod_bmod
theorem bm_id {x : Int} (h : -2147483648 ≤ x ∧ x ≤ 2147483647) : bm x = x := by
  unfold bm
  exact Int.bmod_eq_of_le (by omega) (by omega)
section MORE2
variable {G : GT} {M : MI} {R : Room} {E : ET} {Z : ZT} {ex : Bool} {sh : List Ob} {k n : Nat} {pc : Nat} {lv lv' : List (Nat × Value)} {st : List Value} {σ : Sg}
theorem r_i2lb {x : Int} (hdg : decode M.2.1 pc = .ok (.i2l, 1)) (kk : Rn G M R E Z ex sh k n (pc + 1) lv (Lg (bm x) :: st) σ) : Rn G M R E Z ex sh k n pc lv (I x :: st) σ := by
  have h := r_i2l (x := bm x) hdg bm_bd kk
  unfold I at h ⊢
  rw [bm_I] at h
  exact h
theorem r_ldcw {z : Int} {idx : Nat} (hdg : decode M.2.1 pc = .ok (.ldc_w idx, 3)) (hw : Cond.constant M.1.cls idx (Int32.ofInt z) ∈ TBG) (kk : Rn G M R E Z ex sh k n (pc + 3) lv (I z :: st) σ) : Rn G M R E Z ex sh k n pc lv st σ := fun p l e s m args below meth c H locs ls F => lv_ldcw F.1 F.2.1 F.own (F.wd _ hw) hdg (kk p l e s m args below meth c H locs ls F)
theorem r_lsub {x y : Int} (hdg : decode M.2.1 pc = .ok (.lsub, 1)) (kk : Rn G M R E Z ex sh k n (pc + 1) lv (Lg (x - y) :: st) σ) : Rn G M R E Z ex sh k n pc lv (Lg y :: Lg x :: st) σ := fun p l e s m args below meth c H locs ls F => lv_lsub F.1 F.2.1 hdg (by have h := kk p l e s m args below meth c H locs ls F; rwa [Lg, Int64.ofInt_sub] at h)
theorem r_lshl {x y z : Int} (hdg : decode M.2.1 pc = .ok (.lshl, 1)) (hz : Int64.ofInt x <<< ((Int32.ofInt y).toInt64 &&& 63) = Int64.ofInt z) (kk : Rn G M R E Z ex sh k n (pc + 1) lv (Lg z :: st) σ) : Rn G M R E Z ex sh k n pc lv (I y :: Lg x :: st) σ := fun p l e s m args below meth c H locs ls F => lv_lshl F.1 F.2.1 hdg hz (kk p l e s m args below meth c H locs ls F)
theorem r_throwW {ik is ic : Nat} {X text : String} {Post : Option Value → Sg → Prop} {PX : String → Sg → Prop}
    (hg : ∀ w ∈ (vx_atS RX7 ic X xnm).filter goodWord, w ∈ lw_tbl) (hn : ∀ w ∈ (vx_atS RX7 ic X xnm).filter (fun w => !goodWord w), w ∈ XNG) (hM : M.1.cls = RX7)
    (hk : Cond.classLink RX7 ik X ∈ TBG) (hini : Cond.initialized X ∈ TBG) (hstr : (is, text) ∈ STL) (hfit : Bundle.fit X = true) (hgood : (Cond.classLink RX7 ik X :: Cond.initialized X :: vx_atS RX7 ic X xnm).all vx_ot = true)
    (d0 : decode M.2.1 pc = .ok (.new ik, 3)) (d3 : decode M.2.1 (pc + 3) = .ok (.dup, 1)) (d4 : decode M.2.1 (pc + 4) = .ok (.ldc_w is, 3)) (d6 : decode M.2.1 (pc + 7) = .ok (.invokespecial ic, 3)) (d9 : decode M.2.1 (pc + 10) = .ok (.athrow, 1))
    (hRf : 5 < R.frames) (hRl : 82 ≤ R.locals) (hRc : 1 ≤ R.cells) (hRs : 6 ≤ R.slots) (hp : PX X σ) :
    Rn G M R (EX G) (Zx G sh Post PX) false sh 0 0 pc lv [] σ := by
  intro p l e s m args below meth c H locs ls F
  obtain ⟨hst, hTX, htab⟩ := F.2.2.2.2.2.2.2.2.2.2.2.2
  obtain ⟨sa, hsa⟩ := hTX.2.1 _ hstr
  have hown := F.own
  rw [hM] at hown
  refine vx_throwSW (names := xnm) (text := text) (A := Aq G) F.1 F.2.1 hst hown hfit (by decide +kernel) (F.wd _ hk) (F.wd _ hini) hsa (hat_of hg hn F.wd hTX.1) (fun w hw => List.all_eq_true.mp hgood w hw) hTX.2.2.1 hTX.2.2.2 F.fs (F.hl.1.trans F.2.2.1.symm) d0 d3 d4 d6 d9 (fun x hx => (htab x hx).elim) (by show 2 + 3 < _; omega) (by show 0 + (13 * 3 + 43) ≤ _; omega) (by omega) (by omega) F.lk (fun t ha hz hq => ?_) (fun q hq => F.fs.2.2 q hq) (Nat.le_refl _) (Nat.le_refl _)
  refine ⟨⟨σ, hp, ?_, fun q => by cases q⟩, ?_⟩
  · exact F.hw.1.kept (fun k q hk => hq q.1 (F.hw.1 k q hk).lt)
  · exact ⟨Nat.le_trans F.fs.1 hz, fun q h1 h2 => (hq q (Nat.lt_of_lt_of_le h1 F.fs.1)).trans (F.fs.2.1 q h1 h2)⟩
end MORE2

/-! the abstract state: the state now, the saved ones, the slots, the buffer -/
abbrev Ab : Type := St × List St × Option St × Option St × List Int
abbrev nT (x : St) : Int → Int := x.2.2.2.2.2.2.1
abbrev nW (x : St) : Int → Int := x.2.2.2.2.2.2.2
def OkS (x : St) : Prop := (1 ≤ x.1 ∧ x.1 ≤ 10) ∧ (1 ≤ x.2.1 ∧ x.2.1 ≤ 10) ∧ (1 ≤ x.2.2.1 ∧ x.2.2.1 ≤ 10) ∧ (∀ i, 0 ≤ nT x i ∧ nT x i ≤ 9999) ∧ (∀ i, (i < 0 ∨ 100 ≤ i) → nT x i = 0) ∧ (∀ i, 0 ≤ i → i < x.2.2.1 → 1 ≤ nW x i ∧ nW x i ≤ 99) ∧ (∀ i, (i < 0 ∨ x.2.2.1 ≤ i) → nW x i = 0)
def OkA (A : Ab) : Prop := OkS A.1 ∧ (∀ x ∈ A.2.1, OkS x) ∧ (∀ x, A.2.2.1 = some x → OkS x) ∧ (∀ x, A.2.2.2.1 = some x → OkS x) ∧ A.2.1.length ≤ 6 ∧ A.2.2.2.2.length ≤ 60 ∧ ∀ c ∈ A.2.2.2.2, 33 ≤ c ∧ c ≤ 126
def slC (σ : Sg) (f a : Nat) : Option St := if σ f 0 = 1 then some (stC σ a) else none
def bfC (g : Int → Int) (n : Int) : List Int := (List.range n.toNat).map (fun (k : Nat) => g (k : Int))
def absC (σ : Sg) : Ab := (stC σ 1, hiC σ, slC σ 38 39, slC σ 42 43, bfC (σ 16) (σ 15 0))
def ScC (σ : Sg) : Prop := (∀ x, -1 ≤ σ 6 x ∧ σ 6 x ≤ 9) ∧ (∀ j, 0 ≤ j → j ≤ 10 → σ 11 j = 0) ∧ σ 13 0 = 0
def CI (σ : Sg) : Prop := ScC σ ∧ HistOK σ ∧ (0 ≤ σ 15 0 ∧ σ 15 0 ≤ 60) ∧ ((σ 38 0 = 0 ∨ σ 38 0 = 1) ∧ (σ 42 0 = 0 ∨ σ 42 0 = 1)) ∧ (∀ i, (i < 0 ∨ 100 ≤ i) → σ 2 i = 0) ∧ OkA (absC σ)
theorem rs_at {n : Int} {f : Int → Int} {i : Int} (h : 0 ≤ i ∧ i < n) : rs n f i = f i := by unfold rs; rw [if_pos h]
theorem rs_out {n : Int} {f : Int → Int} {i : Int} (h : i < 0 ∨ n ≤ i) : rs n f i = 0 := by unfold rs; rw [if_neg (by omega)]
theorem rs_id {n : Int} {f : Int → Int} (h : ∀ i, (i < 0 ∨ n ≤ i) → f i = 0) : rs n f = f := by
  funext i
  unfold rs
  by_cases c : 0 ≤ i ∧ i < n
  · rw [if_pos c]
  · rw [if_neg c, h i (by omega)]
theorem CI.T {σ : Sg} (h : CI σ) : nT (absC σ).1 = σ 2 := rs_id h.2.2.2.2.1
theorem CI.W {σ : Sg} : nW (absC σ).1 = rs (σ 1 2) (σ 3) := rfl
theorem CI.us {σ : Sg} (h : CI σ) : (1 ≤ σ 1 0 ∧ σ 1 0 ≤ 10) ∧ (1 ≤ σ 1 1 ∧ σ 1 1 ≤ 10) ∧ (1 ≤ σ 1 2 ∧ σ 1 2 ≤ 10) ∧ (∀ i, 0 ≤ σ 2 i ∧ σ 2 i ≤ 9999) ∧ (∀ i, 0 ≤ i → i < σ 1 2 → 1 ≤ σ 3 i ∧ σ 3 i ≤ 99) ∧ (∀ x, -1 ≤ σ 6 x ∧ σ 6 x ≤ 9) ∧ (∀ j, 0 ≤ j → j ≤ 10 → σ 11 j = 0) ∧ σ 13 0 = 0 ∧ HistOK σ ∧ (0 ≤ σ 15 0 ∧ σ 15 0 ≤ 60) ∧ (∀ i, 0 ≤ i → i < σ 15 0 → 33 ≤ σ 16 i ∧ σ 16 i ≤ 126) := by
  have hT := h.T
  obtain ⟨⟨a1, a2, a3⟩, a4, a5, a6, a7, b1, b2, b3, b4, b5, b6, b7⟩ := h
  obtain ⟨c1, c2, c3, c4, c5, c6, c7⟩ := b1
  rw [hT] at c4
  refine ⟨c1, c2, c3, c4, fun i p q => ?_, a1, a2, a3, a4, a5, fun i p q => ?_⟩
  · have := c6 i p q
    rw [CI.W, rs_at ⟨p, q⟩] at this
    exact this
  · apply b7
    show σ 16 i ∈ bfC (σ 16) (σ 15 0)
    unfold bfC
    refine List.mem_map.mpr ⟨i.toNat, List.mem_range.mpr (by omega), ?_⟩
    rw [show ((i.toNat : Nat) : Int) = i by omega]
/-- only what calls note for themselves is changed -/
def Qs (σ τ : Sg) : Prop := (∀ a, (a < 4 ∨ a = 10 ∨ a = 16 ∨ 18 ≤ a) → τ a = σ a) ∧ τ 15 0 = σ 15 0 ∧ (ScC σ → ScC τ)
theorem Qs.refl (σ : Sg) : Qs σ σ := ⟨fun _ _ => rfl, rfl, id⟩
theorem Qs.tr {σ τ υ : Sg} (h1 : Qs σ τ) (h2 : Qs τ υ) : Qs σ υ := ⟨fun a h => (h2.1 a h).trans (h1.1 a h), h2.2.1.trans h1.2.1, fun h => h2.2.2 (h1.2.2 h)⟩
theorem hiC_c {σ τ : Sg} (h : ∀ a, 18 ≤ a → a < 38 → τ a = σ a) : hiC τ = hiC σ := by
  unfold hiC
  rw [h 18 (by omega) (by omega)]
  apply List.map_congr_left
  intro r hr
  apply stC_c
  · exact h _ (by omega) (by omega)
  · exact h _ (by omega) (by omega)
  · exact h _ (by omega) (by omega)
theorem slC_c {σ τ : Sg} {f a : Nat} (h : τ f = σ f) (h0 : τ a = σ a) (h1 : τ (a + 1) = σ (a + 1)) (h2 : τ (a + 2) = σ (a + 2)) : slC τ f a = slC σ f a := by
  unfold slC
  rw [h, stC_c h0 h1 h2]
/-- all but the state now -/
theorem absC_now {σ τ : Sg} (h : ∀ a, 16 ≤ a → a ≠ 17 → a < 46 → τ a = σ a) (h15 : τ 15 0 = σ 15 0) : absC τ = (stC τ 1, (absC σ).2) := by
  unfold absC
  rw [hiC_c (fun a h1 h2 => h a (by omega) (by omega) (by omega)), slC_c (h 38 (by omega) (by omega) (by omega)) (h 39 (by omega) (by omega) (by omega)) (h 40 (by omega) (by omega) (by omega)) (h 41 (by omega) (by omega) (by omega)),
    slC_c (h 42 (by omega) (by omega) (by omega)) (h 43 (by omega) (by omega) (by omega)) (h 44 (by omega) (by omega) (by omega)) (h 45 (by omega) (by omega) (by omega)), h 16 (by omega) (by omega) (by omega), h15]
def Done (σ τ : Sg) (A : Ab) : Prop := CI τ ∧ absC τ = A ∧ ∀ a, 46 ≤ a → τ a = σ a
theorem Qs.abs {σ τ : Sg} (h : Qs σ τ) : absC τ = absC σ := by
  rw [absC_now (fun a h1 h2 h3 => h.1 a (by omega)) h.2.1, stC_c (h.1 1 (by omega)) (h.1 2 (by omega)) (h.1 3 (by omega))]
  rfl
theorem Qs.ci {σ τ : Sg} (h : Qs σ τ) (hc : CI σ) : CI τ := by
  have ha := h.abs
  obtain ⟨a1, a2, a3, a4, a5, a6⟩ := hc
  refine ⟨h.2.2 a1, ?_, ?_, ?_, ?_, ?_⟩
  · unfold HistOK; rw [h.1 18 (by omega)]; exact a2
  · rw [h.2.1]; exact a3
  · rw [h.1 38 (by omega), h.1 42 (by omega)]; exact a4
  · rw [h.1 2 (by omega)]; exact a5
  · rw [ha]; exact a6
theorem Qs.done {σ τ : Sg} (h : Qs σ τ) (hc : CI σ) : Done σ τ (absC σ) := ⟨h.ci hc, h.abs, fun a ha => h.1 a (by omega)⟩
theorem Qs.ex {σ : Sg} {k : Int} : Qs σ (exs σ k) := ⟨fun a h => exs_ne (by omega), by rw [exs_ne (by decide)], fun h => by unfold ScC; rw [exs_ne (by decide), exs_ne (by decide), exs_ne (by decide)]; exact h⟩
theorem Qs.op {σ : Sg} {w : Int} : Qs σ (opn σ w) := by
  unfold opn
  by_cases e : w = 0
  · rw [if_pos e]; exact Qs.refl σ
  · rw [if_neg e]; exact Qs.ex
theorem Qs.sk {σ τ : Sg} {w : Int} (h : SeekP σ τ w) : Qs σ τ := by
  obtain ⟨h1, h2, h3⟩ := h
  refine ⟨fun a ha => h1 a (by omega) (by omega) (by omega) (by omega) (by omega), by rw [h1 15 (by decide) (by decide) (by decide) (by decide) (by decide)], fun hs => ⟨h2, ?_, ?_⟩⟩
  · rw [h1 11 (by decide) (by decide) (by decide) (by decide) (by decide)]; exact hs.2.1
  · rw [h1 13 (by decide) (by decide) (by decide) (by decide) (by decide)]; exact hs.2.2
theorem Qs.pl {σ τ : Sg} (h : PlanP σ τ) : Qs σ τ := by
  obtain ⟨h1, h2, h3, h4⟩ := h
  exact ⟨fun a ha => h1 a (by omega) (by omega) (by omega), by rw [h1 15 (by decide) (by decide) (by decide)], fun hs => ⟨by rw [h1 6 (by decide) (by decide) (by decide)]; exact hs.1, h2, h3⟩⟩
theorem Qs.ty {σ τ : Sg} (h : TriedP σ τ) : Qs σ τ :=
  ⟨fun a ha => h.1 a (by omega), by rw [h.1 15 (by decide)], fun hs => by unfold ScC; rw [h.1 6 (by decide), h.1 11 (by decide), h.1 13 (by decide)]; exact hs⟩
theorem Qs.rd {σ τ : Sg} (h : ReadP σ τ) : Qs σ τ :=
  ⟨fun a ha => h.1 a (by omega) (by omega), h.2.1, fun hs => by unfold ScC; rw [h.1 6 (by decide) (by decide), h.1 11 (by decide) (by decide), h.1 13 (by decide) (by decide)]; exact hs⟩
theorem Qs.tn {σ : Sg} {w : Int} : Qs σ (up (ov σ 6 (10 * w) (10 * w + 10) (fun _ => -1)) 7 w (-1)) := by
  refine ⟨fun a ha => by rw [up_ne (by omega), ov_ne (by omega)], by rw [up_ne (by decide), ov_ne (by decide)], fun hs => ⟨fun x => ?_, ?_, ?_⟩⟩
  · rw [up_ne (by decide), ov_at]
    split
    · omega
    · exact hs.1 x
  · rw [up_ne (by decide), ov_ne (by decide)]; exact hs.2.1
  · rw [up_ne (by decide), ov_ne (by decide)]; exact hs.2.2
/-- behind a save and changes of the state now -/
theorem aft {σ s τ : Sg} (hc : CI σ) (hs : SaveP σ s) (hf : ∀ a, (a = 16 ∨ 18 ≤ a) → τ a = s a) (h15 : τ 15 0 = s 15 0) (hsc : ScC s → ScC τ) (hz : ∀ i, (i < 0 ∨ 100 ≤ i) → τ 2 i = 0) (hO : OkS (stC τ 1)) :
    Done σ τ (stC τ 1, pushH (hiC σ) (stC σ 1), (absC σ).2.2) := by
  obtain ⟨b1, b2, b3⟩ := hs
  obtain ⟨a1, a2, a3, a4, a5, a6, a7, a8, a9, a10, a11, a12⟩ := hc
  have hx : absC τ = (stC τ 1, pushH (hiC σ) (stC σ 1), (absC σ).2.2) := by
    unfold absC
    rw [hiC_c (fun a h1 h2 => hf a (by omega)), slC_c (hf 38 (by omega)) (hf 39 (by omega)) (hf 40 (by omega)) (hf 41 (by omega)), slC_c (hf 42 (by omega)) (hf 43 (by omega)) (hf 44 (by omega)) (hf 45 (by omega)), hf 16 (by omega), h15,
      b3, slC_c (b1 38 (by decide) (by omega)) (b1 39 (by decide) (by omega)) (b1 40 (by decide) (by omega)) (b1 41 (by decide) (by omega)), slC_c (b1 42 (by decide) (by omega)) (b1 43 (by decide) (by omega)) (b1 44 (by decide) (by omega)) (b1 45 (by decide) (by omega)), b1 16 (by decide) (by omega), b1 15 (by decide) (by omega)]
  refine ⟨⟨hsc ?_, ?_, ?_, ?_, hz, ?_⟩, hx, fun a ha => (hf a (by omega)).trans (b1 a (by omega) (by omega))⟩
  · unfold ScC; rw [b1 6 (by decide) (by omega), b1 11 (by decide) (by omega), b1 13 (by decide) (by omega)]; exact a1
  · unfold HistOK; rw [hf 18 (by omega)]; exact b2
  · rw [h15, b1 15 (by decide) (by omega)]; exact a3
  · rw [hf 38 (by omega), hf 42 (by omega), b1 38 (by decide) (by omega), b1 42 (by decide) (by omega)]; exact a4
  · rw [hx]
    refine ⟨hO, fun x hx => ?_, a8, a9, ?_, a11, a12⟩
    · unfold pushH at hx
      rcases List.mem_append.mp hx with h | h
      · split at h
        · exact a7 x (List.mem_of_mem_tail h)
        · exact a7 x h
      · rw [List.mem_singleton.mp h]; exact a6
    · show (pushH (hiC σ) (stC σ 1)).length ≤ 6
      have a10 : (hiC σ).length ≤ 6 := a10
      unfold pushH
      rw [List.length_append]
      split
      · rw [List.length_tail]; simp; omega
      · simp; omega
theorem kuse : True := by
  have h1 := @va_new
  have h2 := @va_newaK
  have h3 := @va_newq
  have h4 := @va_astq
  have h5 := @vx_ofWH
  have h6 := @vx_cwSW
  have h7 := @vx_runSW
  have h8 := @vx_catch
  have h9 := @vn_d2l
  have h10 := @va_Nc
  have h11 := @W.base
  trivial

