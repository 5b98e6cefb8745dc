
/-! the model's state, as the class's -/
def st0 (f : Int → Int) : St := (f 0, f 1, f 5, f 2, f 3, f 4, tM f, rs (f 5) (fun i => f (6 + i)))
def hiM (σ : Sg) : List St := (List.range (σ 46 2).toNat).map (fun (r : Nat) => st0 (fun i => σ 48 (116 * (r : Int) + i)))
def slM (σ : Sg) (k : Int) : Option St := if σ 50 k = 1 then some (st0 (fun i => σ 49 (116 * k + i))) else none
def absM (σ : Sg) : Ab := (st0 (σ 47), hiM σ, slM σ 0, slM σ 1, bfC (σ 51) (σ 46 6))
def P52 (σ : Sg) : Prop := ∀ x, -1 ≤ σ 52 x ∧ σ 52 x ≤ 9
def IM (σ : Sg) : Prop := P52 σ ∧ (0 ≤ σ 46 2 ∧ σ 46 2 ≤ 6) ∧ (0 ≤ σ 46 6 ∧ σ 46 6 ≤ 60) ∧ ((σ 50 0 = 0 ∨ σ 50 0 = 1) ∧ (σ 50 1 = 0 ∨ σ 50 1 = 1)) ∧ OkA (absM σ)
theorem IM.us {σ : Sg} (h : IM σ) : (1 ≤ σ 47 0 ∧ σ 47 0 ≤ 10) ∧ (1 ≤ σ 47 1 ∧ σ 47 1 ≤ 10) ∧ (1 ≤ σ 47 5 ∧ σ 47 5 ≤ 10) ∧ (∀ i, 0 ≤ tM (σ 47) i ∧ tM (σ 47) i ≤ 9999) ∧ (∀ i, 0 ≤ i → i < σ 47 5 → 1 ≤ σ 47 (6 + i) ∧ σ 47 (6 + i) ≤ 99) ∧ (∀ x, -1 ≤ σ 52 x ∧ σ 52 x ≤ 9) ∧ (0 ≤ σ 46 2 ∧ σ 46 2 ≤ 6) ∧ (0 ≤ σ 46 6 ∧ σ 46 6 ≤ 60) ∧ (∀ i, 0 ≤ i → i < σ 46 6 → 33 ≤ σ 51 i ∧ σ 51 i ≤ 126) := by
  obtain ⟨a1, a2, a3, a4, b1, b2, b3, b4, b5, b6, b7⟩ := h
  obtain ⟨c1, c2, c3, c4, c5, c6, c7⟩ := b1
  refine ⟨c1, c2, c3, c4, fun i p q => ?_, a1, a2, a3, fun i p q => ?_⟩
  · have h1 : 1 ≤ rs (σ 47 5) (fun i => σ 47 (6 + i)) i ∧ rs (σ 47 5) (fun i => σ 47 (6 + i)) i ≤ 99 := c6 i p q
    rw [rs_at ⟨p, q⟩] at h1
    exact h1
  · apply b7
    show σ 51 i ∈ bfC (σ 51) (σ 46 6)
    unfold bfC
    refine List.mem_map.mpr ⟨i.toNat, List.mem_range.mpr (by omega), ?_⟩
    rw [show ((i.toNat : Nat) : Int) = i by omega]
theorem st0_c {f g : Int → Int} (h : ∀ i, 0 ≤ i → i < 116 → f i = g i) (hn : g 5 ≤ 10) : st0 f = st0 g := by
  have e : tM f = tM g := by
    funext i
    unfold tM
    by_cases c : 0 ≤ i ∧ i < 100
    · rw [if_pos c, if_pos c, h _ (by omega) (by omega)]
    · rw [if_neg c, if_neg c]
  have e2 : rs (f 5) (fun i => f (6 + i)) = rs (g 5) (fun i => g (6 + i)) := by
    funext i
    unfold rs
    rw [h 5 (by decide) (by decide)]
    by_cases c : 0 ≤ i ∧ i < g 5
    · rw [if_pos c, if_pos c]; exact h (6 + i) (by omega) (by omega)
    · rw [if_neg c, if_neg c]
  unfold st0
  rw [e, e2, h 0 (by decide) (by decide), h 1 (by decide) (by decide), h 2 (by decide) (by decide), h 3 (by decide) (by decide), h 4 (by decide) (by decide), h 5 (by decide) (by decide)]
theorem st0_is {f : Int → Int} (x : St) (h0 : f 0 = x.1) (h1 : f 1 = x.2.1) (h2 : f 5 = x.2.2.1) (h3 : f 2 = x.2.2.2.1) (h4 : f 3 = x.2.2.2.2.1) (h5 : f 4 = x.2.2.2.2.2.1) (hT : ∀ i, 0 ≤ i → i < 100 → f (16 + i) = nT x i) (hW : ∀ i, 0 ≤ i → i < x.2.2.1 → f (6 + i) = nW x i) (hO : OkS x) : st0 f = x := by
  obtain ⟨x0, x1, x2, x3, x4, x5, x6, x7⟩ := x
  have e : tM f = x6 := by
    funext i
    unfold tM
    by_cases c : 0 ≤ i ∧ i < 100
    · rw [if_pos c]; exact hT i c.1 c.2
    · rw [if_neg c]; exact (hO.2.2.2.2.1 i (by omega)).symm
  have h2 : f 5 = x2 := h2
  have e2 : rs (f 5) (fun i => f (6 + i)) = x7 := by
    funext i
    unfold rs
    rw [h2]
    by_cases c : 0 ≤ i ∧ i < x2
    · rw [if_pos c]; exact hW i c.1 c.2
    · rw [if_neg c]; exact (hO.2.2.2.2.2.2 i (by show i < 0 ∨ x2 ≤ i; omega)).symm
  unfold st0
  rw [e, e2, h2, h0, h1, h3, h4, h5]
/-- only what calls of the model note for themselves is changed -/
def Qm (σ τ : Sg) : Prop := (∀ a, (a < 46 ∨ (47 ≤ a ∧ a ≤ 51) ∨ 59 ≤ a) → τ a = σ a) ∧ (τ 46 2 = σ 46 2 ∧ τ 46 6 = σ 46 6) ∧ (P52 σ → P52 τ)
theorem Qm.refl (σ : Sg) : Qm σ σ := ⟨fun _ _ => rfl, ⟨rfl, rfl⟩, id⟩
theorem Qm.tr {σ τ υ : Sg} (h1 : Qm σ τ) (h2 : Qm τ υ) : Qm σ υ := ⟨fun a h => (h2.1 a h).trans (h1.1 a h), ⟨h2.2.1.1.trans h1.2.1.1, h2.2.1.2.trans h1.2.1.2⟩, fun h => h2.2.2 (h1.2.2 h)⟩
theorem Qm.u7 {σ : Sg} {j v : Int} (h : j ≠ 2 ∧ j ≠ 6) : Qm σ (up σ 46 j v) := ⟨fun a ha => up_ne (by omega), ⟨up_nj (Ne.symm h.1), up_nj (Ne.symm h.2)⟩, fun q => by unfold P52; rw [up_ne (by decide)]; exact q⟩
theorem Qm.fd {σ τ : Sg} {w : Int} (h : FindP σ τ w) : Qm σ τ := ⟨fun a ha => h.1 a (by omega) (by omega), ⟨h.2.1 2 (by decide) (by decide), h.2.1 6 (by decide) (by decide)⟩, fun _ => h.2.2.2.2⟩
theorem hiM_c {σ τ : Sg} (h : τ 48 = σ 48) (h2 : τ 46 2 = σ 46 2) : hiM τ = hiM σ := by unfold hiM; rw [h, h2]
theorem slM_c {σ τ : Sg} {k : Int} (h : τ 49 = σ 49) (h2 : τ 50 = σ 50) : slM τ k = slM σ k := by unfold slM; rw [h, h2]
theorem Qm.abs {σ τ : Sg} (h : Qm σ τ) : absM τ = absM σ := by
  unfold absM
  rw [h.1 47 (by omega), h.1 51 (by omega), h.2.1.2, hiM_c (h.1 48 (by omega)) h.2.1.1, slM_c (h.1 49 (by omega)) (h.1 50 (by omega)), slM_c (h.1 49 (by omega)) (h.1 50 (by omega))]
def DoneM (σ τ : Sg) (A : Ab) : Prop := IM τ ∧ absM τ = A ∧ ∀ a, (a < 46 ∨ 59 ≤ a) → τ a = σ a
theorem Qm.ci {σ τ : Sg} (h : Qm σ τ) (hc : IM σ) : IM τ := by
  obtain ⟨a1, a2, a3, a4, a5⟩ := hc
  exact ⟨h.2.2 a1, by rw [h.2.1.1]; exact a2, by rw [h.2.1.2]; exact a3, by rw [h.1 50 (by omega)]; exact a4, by rw [h.abs]; exact a5⟩
theorem Qm.done {σ τ : Sg} (h : Qm σ τ) (hc : IM σ) : DoneM σ τ (absM σ) := ⟨h.ci hc, h.abs, fun a ha => h.1 a (by omega)⟩
/-- a call of the model: its answer, whether it throws, what is then -/
def MkP (σ : Sg) (o : Op3) : Option Value → Sg → Prop := fun rv sv => some (I o.2.1) = rv ∧ sv 46 7 = o.1 ∧ DoneM σ sv o.2.2
/-- the row laid over another one -/
def lyS (σ : Sg) (a b : Nat) (p q n : Int) : Sg := fun o j => if o = b then (if q ≤ j ∧ j < q + n then σ a (p + (j - q)) else σ b j) else σ o j
theorem ly_ne {σ : Sg} {a b o : Nat} {p q n : Int} (h : o ≠ b) : lyS σ a b p q n o = σ o := by funext j; simp [lyS, h]
theorem ly_at {σ : Sg} {a b : Nat} {p q n j : Int} : lyS σ a b p q n b j = if q ≤ j ∧ j < q + n then σ a (p + (j - q)) else σ b j := by simp [lyS]
theorem ly_0 {σ : Sg} {a b : Nat} {p q : Int} : σ = lyS σ a b p q 0 := by
  funext o j
  by_cases h : o = b
  · subst h
    rw [ly_at, if_neg (by omega)]
  · rw [ly_ne h]
theorem ly_s {σ : Sg} {a b : Nat} {p q k : Int} (h : a ≠ b) (hk : 0 ≤ k) : up (lyS σ a b p q k) b (q + k) (σ a (p + k)) = lyS σ a b p q (k + 1) := by
  funext o j
  by_cases ho : o = b
  · subst ho
    rw [up_at, ly_at, ly_at]
    by_cases hj : j = q + k
    · rw [if_pos hj, if_pos (by omega), hj, show p + (q + k - q) = p + k by omega]
    · rw [if_neg hj]
      by_cases c : q ≤ j ∧ j < q + k
      · rw [if_pos c, if_pos (by omega)]
      · rw [if_neg c, if_neg (by omega)]
  · rw [up_ne ho, ly_ne ho, ly_ne ho]
def SavM (σ sv : Sg) : Prop := (∀ a, a ≠ 46 → a ≠ 48 → sv a = σ a) ∧ (∀ j, j ≠ 2 → sv 46 j = σ 46 j) ∧ (0 ≤ sv 46 2 ∧ sv 46 2 ≤ 6) ∧ hiM sv = pushH (hiM σ) (st0 (σ 47))
theorem sav_of {σ sv : Sg} {n : Int} (hc : IM σ) (hne : ∀ a, a ≠ 46 → a ≠ 48 → sv a = σ a) (h46 : ∀ j, j ≠ 2 → sv 46 j = σ 46 j) (hn : n = if σ 46 2 = 6 then 5 else σ 46 2) (h2 : sv 46 2 = n + 1) (h48 : ∀ j, sv 48 j = if 116 * n ≤ j ∧ j < 116 * n + 116 then σ 47 (j - 116 * n) else if σ 46 2 = 6 ∧ 0 ≤ j ∧ j < 580 then σ 48 (j + 116) else σ 48 j) : SavM σ sv := by
  have h9 := hc.2.1
  have hO := hc.2.2.2.2
  have hlen : (hiM σ).length = (σ 46 2).toNat := by unfold hiM; rw [List.length_map, List.length_range]
  have hel : ∀ r : Nat, r < (σ 46 2).toNat → σ 48 (116 * (r : Int) + 5) ≤ 10 := fun r hr => (hO.2.1 (st0 (fun i => σ 48 (116 * (r : Int) + i))) (List.mem_map.mpr ⟨r, List.mem_range.mpr hr, rfl⟩)).2.2.1.2
  have hlast : st0 (fun i => sv 48 (116 * n + i)) = st0 (σ 47) := by
    apply st0_c
    · intro i a b
      show sv 48 (116 * n + i) = _
      rw [h48, if_pos (by omega), show 116 * n + i - 116 * n = i by omega]
    · exact hO.1.2.2.1.2
  have hnb : 0 ≤ n ∧ n ≤ 5 := by rw [hn]; split <;> omega
  refine ⟨hne, h46, by omega, ?_⟩
  have e1 : hiM sv = (List.range n.toNat).map (fun (r : Nat) => st0 (fun i => sv 48 (116 * (r : Int) + i))) ++ [st0 (σ 47)] := by
    unfold hiM
    rw [h2, show (n + 1).toNat = n.toNat + 1 by omega, List.range_succ, List.map_append, List.map_singleton, show ((n.toNat : Nat) : Int) = n by omega, hlast]
  rw [e1]
  unfold pushH
  congr 1
  by_cases c : σ 46 2 = 6
  · rw [if_pos c] at hn
    rw [if_pos (by rw [hlen, c]; rfl)]
    have e2 : hiM σ = st0 (fun i => σ 48 (116 * ((0 : Nat) : Int) + i)) :: (List.range 5).map (fun (r : Nat) => st0 (fun i => σ 48 (116 * ((r + 1 : Nat) : Int) + i))) := by
      unfold hiM
      rw [c, show (6 : Int).toNat = 5 + 1 from rfl, List.range_succ_eq_map, List.map_cons, List.map_map]
      rfl
    rw [e2, List.tail_cons, show n.toNat = 5 by omega]
    apply List.map_congr_left
    intro r hr
    have hr := List.mem_range.mp hr
    apply st0_c
    · intro i a b
      show sv 48 (116 * (r : Int) + i) = σ 48 (116 * ((r + 1 : Nat) : Int) + i)
      rw [h48, if_neg (by omega), if_pos ⟨c, by omega, by omega⟩]
      congr 1; omega
    · exact hel (r + 1) (by omega)
  · rw [if_neg c] at hn
    rw [if_neg (by rw [hlen]; omega)]
    unfold hiM
    rw [hn]
    apply List.map_congr_left
    intro r hr
    have hr := List.mem_range.mp hr
    apply st0_c
    · intro i a b
      show sv 48 (116 * (r : Int) + i) = σ 48 (116 * (r : Int) + i)
      rw [h48, if_neg (by omega), if_neg (fun q => c q.1)]
    · exact hel r hr
/-- between a save and the end -/
def Nm (s τ : Sg) : Prop := (∀ a, (a < 46 ∨ (48 ≤ a ∧ a ≤ 51) ∨ 59 ≤ a) → τ a = s a) ∧ τ 46 2 = s 46 2 ∧ (P52 s → P52 τ)
theorem Nm.refl (s : Sg) : Nm s s := ⟨fun _ _ => rfl, rfl, id⟩
theorem Nm.u {s τ : Sg} {i v : Int} (h : Nm s τ) : Nm s (up τ 47 i v) :=
  ⟨fun b hb => by rw [up_ne (by omega)]; exact h.1 b hb, by rw [up_ne (by decide)]; exact h.2.1, fun q => by
    have := h.2.2 q
    unfold P52 at this ⊢
    rw [up_ne (by decide)]; exact this⟩
theorem Nm.v {s τ : Sg} {i v : Int} (h : Nm s τ) (hi : i ≠ 2) : Nm s (up τ 46 i v) :=
  ⟨fun b hb => by rw [up_ne (by omega)]; exact h.1 b hb, by rw [up_nj (Ne.symm hi)]; exact h.2.1, fun q => by
    have := h.2.2 q
    unfold P52 at this ⊢
    rw [up_ne (by decide)]; exact this⟩
theorem Nm.q {s τ υ : Sg} (h : Nm s τ) (hq : Qm τ υ) : Nm s υ := ⟨fun a ha => (hq.1 a (by omega)).trans (h.1 a ha), hq.2.1.1.trans h.2.1, fun q => hq.2.2 (h.2.2 q)⟩
theorem aftM {σ ρ s τ : Sg} (hc : IM σ) (hq : Qm σ ρ) (hs : SavM ρ s) (hn : Nm s τ) (l : List Int) (hl6 : 0 ≤ τ 46 6 ∧ τ 46 6 ≤ 60) (hl : bfC (σ 51) (τ 46 6) = l) (hlo : ∀ c ∈ l, 33 ≤ c ∧ c ≤ 126) (x : St) (h0 : τ 47 0 = x.1) (h1 : τ 47 1 = x.2.1) (h2 : τ 47 5 = x.2.2.1) (h3 : τ 47 2 = x.2.2.2.1) (h4 : τ 47 3 = x.2.2.2.2.1) (h5 : τ 47 4 = x.2.2.2.2.2.1) (hT : ∀ i, 0 ≤ i → i < 100 → τ 47 (16 + i) = nT x i) (hW : ∀ i, 0 ≤ i → i < x.2.2.1 → τ 47 (6 + i) = nW x i) (hO : OkS x) : DoneM σ τ (setB (svA (absM σ) x) l) := by
  have hx := st0_is x h0 h1 h2 h3 h4 h5 hT hW hO
  obtain ⟨s1, s2, s3, s4⟩ := hs
  have hab : absM τ = setB (svA (absM σ) x) l := by
    unfold absM
    rw [hx, hiM_c (hn.1 48 (by omega)) hn.2.1, s4, slM_c ((hn.1 49 (by omega)).trans (s1 49 (by decide) (by decide))) ((hn.1 50 (by omega)).trans (s1 50 (by decide) (by decide))), slM_c ((hn.1 49 (by omega)).trans (s1 49 (by decide) (by decide))) ((hn.1 50 (by omega)).trans (s1 50 (by decide) (by decide))),
      hiM_c (hq.1 48 (by omega)) hq.2.1.1, slM_c (hq.1 49 (by omega)) (hq.1 50 (by omega)), slM_c (hq.1 49 (by omega)) (hq.1 50 (by omega)), hq.1 47 (by omega), hn.1 51 (by omega), s1 51 (by decide) (by decide), hq.1 51 (by omega), hl]
    rfl
  obtain ⟨a1, a2, a3, a4, a6, a7, a8, a9, a10, a11, a12⟩ := hc
  refine ⟨⟨hn.2.2 ?_, by rw [hn.2.1]; exact s3, hl6, ?_, ?_⟩, hab, fun a ha => by rw [hn.1 a (by omega), s1 a (by omega) (by omega), hq.1 a (by omega)]⟩
  · unfold P52; rw [s1 52 (by decide) (by decide)]; exact hq.2.2 a1
  · rw [hn.1 50 (by omega), s1 50 (by decide) (by decide), hq.1 50 (by omega)]; exact a4
  · rw [hab]
    refine ⟨hO, fun y hy => ?_, a8, a9, ?_, ?_, hlo⟩
    · have hy : y ∈ pushH (hiM σ) (st0 (σ 47)) := hy
      unfold pushH at hy
      rcases List.mem_append.mp hy with h | h
      · split at h
        · exact a7 y (List.mem_of_mem_tail h)
        · exact a7 y h
      · rw [List.mem_singleton.mp h]; exact a6
    · show (pushH (hiM σ) (st0 (σ 47))).length ≤ 6
      have a10 : (hiM σ).length ≤ 6 := a10
      unfold pushH
      rw [List.length_append]
      split
      · rw [List.length_tail]; simp; omega
      · simp; omega
    · show l.length ≤ 60
      rw [← hl]; unfold bfC; rw [List.length_map, List.length_range]; omega
theorem aftN {σ ρ s τ : Sg} (hc : IM σ) (hq : Qm σ ρ) (hs : SavM ρ s) (hn : Nm s τ) (h6 : τ 46 6 = σ 46 6) (x : St) (h0 : τ 47 0 = x.1) (h1 : τ 47 1 = x.2.1) (h2 : τ 47 5 = x.2.2.1) (h3 : τ 47 2 = x.2.2.2.1) (h4 : τ 47 3 = x.2.2.2.2.1) (h5 : τ 47 4 = x.2.2.2.2.2.1) (hT : ∀ i, 0 ≤ i → i < 100 → τ 47 (16 + i) = nT x i) (hW : ∀ i, 0 ≤ i → i < x.2.2.1 → τ 47 (6 + i) = nW x i) (hO : OkS x) : DoneM σ τ (svA (absM σ) x) :=
  aftM hc hq hs hn (bfC (σ 51) (σ 46 6)) (by rw [h6]; exact hc.2.2.1) (by rw [h6]) hc.2.2.2.2.2.2.2.2.2.2 x h0 h1 h2 h3 h4 h5 hT hW hO
theorem tM_put {s : Sg} {k v i : Int} (hi : 0 ≤ i ∧ i < 100) : up s 47 (16 + k) v 47 (16 + i) = fu (tM (s 47)) k v i := by
  rw [up_at]
  unfold fu
  by_cases c : i = k
  · rw [if_pos (by omega), if_pos c]
  · rw [if_neg (by omega), if_neg c]; exact tM_at hi
theorem Nm.c {s τ υ : Sg} (h : Nm s τ) (e : υ = τ) : Nm s υ := by rw [e]; exact h

set_option maxHeartbeats 1000000 in
set_option maxRecDepth 100000 in
theorem tX8_refuses (G : GT) (σ : Sg) (c : Int) : Ct G mX8_refuses 1 0 0 false SH SH [Rf G 46, I c] σ (fun rv sv => some (I 0) = rv ∧ up σ 46 7 c = sv) := by
  obtain ⟨P, hP⟩ : ∃ P : Option Value → Sg → Prop, P = (fun rv sv => some (I 0) = rv ∧ up σ 46 7 c = sv) := ⟨_, rfl⟩
  rw [← hP]
  refine ct_of (lv := [(0, Rf G 46), (1, I c)]) (by decide +kernel) (Nat.le_of_ble_eq_true rfl) rfl ?_
  refine r_aload_n dX8_refuses_0 rfl rfl ?_
  refine r_iload_n dX8_refuses_1 rfl rfl ?_
  refine r_putI (z := 7) tyX8 dX8_refuses_2 sh46 rfl (ci := 8) (j := 7) rfl (Nat.le_of_ble_eq_true rfl) rfl tyX8_ok nmX8 ixX8 q649 rfl rfl rfl ?_
  refine r_iconst dX8_refuses_5 ?_
  exact r_iret dX8_refuses_6 rfl (by rw [hP]; exact ⟨rfl, rfl⟩)
set_option maxHeartbeats 1000000 in
set_option maxRecDepth 100000 in
theorem tX8_lays (G : GT) (σ : Sg) (a : Nat) (p : Int) (b : Nat) (q : Int) (N M : Nat) (hs : SH[a]? = some (.inr (.inl N))) (ht : SH[b]? = some (.inr (.inl M))) (hab : a ≠ b) (hp : 0 ≤ p ∧ p + 116 ≤ (N : Int) ∧ (N : Int) ≤ 100000 ∧ 0 ≤ q ∧ q + 116 ≤ (M : Int) ∧ (M : Int) ≤ 100000) : Ct G mX8_lays 1 0 0 false SH SH [Rf G a, I p, Rf G b, I q] σ (fun rv sv => none = rv ∧ lyS σ a b p q 116 = sv) := by
  obtain ⟨P, hP⟩ : ∃ P : Option Value → Sg → Prop, P = (fun rv sv => none = rv ∧ lyS σ a b p q 116 = sv) := ⟨_, rfl⟩
  rw [← hP]
  refine ct_of (lv := [(0, Rf G a), (1, I p), (2, Rf G b), (3, I q)]) (by decide +kernel) (Nat.le_of_ble_eq_true rfl) rfl ?_
  refine r_iconst dX8_lays_0 ?_
  refine r_istore (lv' := [(0, Rf G a), (1, I p), (2, Rf G b), (3, I q), (4, I 0)]) dX8_lays_1 (Nat.le_of_ble_eq_true rfl) rfl ?_
  have L3 : ∀ (mm : Nat) (k : Int) (s : Sg), (116 - k).toNat = mm → (hk : 0 ≤ k ∧ k ≤ 116) → (hS : s = lyS σ a b p q k) → Rn G mX8_lays (rmD 1 0 0) E0 (Zn G false SH P 0 0) false SH 0 0 3 [(0, Rf G a), (1, I p), (2, Rf G b), (3, I q), (4, I k)] [] s := by
    intro mm
    induction mm using Nat.strongRecOn with
    | _ mm ih3 =>
    intro k s hm3 hk hS
    refine r_iload dX8_lays_3 rfl ?_
    refine r_bipush dX8_lays_5 rfl ?_
    refine r_icmp_ge (tgt := 28) dX8_lays_7 (by decide) (by omega) (fun hb1 => ?_) (fun hb1 => ?_)
    · skip
      exact r_vret dX8_lays_28 rfl (by rw [hP]; exact ⟨rfl, by rw [hS, show k = 116 by omega]⟩)
    · skip
      refine r_aload_n dX8_lays_10 rfl rfl ?_
      refine r_iload_n dX8_lays_11 rfl rfl ?_
      refine r_iload dX8_lays_12 rfl ?_
      refine r_iadd dX8_lays_14 ?_
      refine r_aload_n dX8_lays_15 rfl rfl ?_
      refine r_iload_n dX8_lays_16 rfl rfl ?_
      refine r_iload dX8_lays_17 rfl ?_
      refine r_iadd dX8_lays_19 ?_
      refine r_iald dX8_lays_20 hs (by omega) (hv := rfl) ?_
      refine r_iast dX8_lays_21 ht (by omega) ?_
      refine r_iinc (lv' := [(0, Rf G a), (1, I p), (2, Rf G b), (3, I q), (4, I (k + 1))]) dX8_lays_22 (Nat.le_of_ble_eq_true rfl) rfl rfl ?_
      refine r_goto (tgt := 3) dX8_lays_25 (by decide) ?_
      exact ih3 _ (by omega) (k + 1) _ rfl (by omega) (by rw [hS]; rw [show lyS σ a b p q k a (p + k) = σ a (p + k) by rw [ly_ne hab]]; exact ly_s hab hk.1)
  exact L3 _ 0 _ rfl (by omega) (ly_0)
set_option maxHeartbeats 1000000 in
set_option maxRecDepth 100000 in
theorem tX8_saves (G : GT) (σ : Sg)  (hmi : IM σ) : Ct G mX8_saves 2 0 0 false SH SH [Rf G 46] σ (fun rv sv => none = rv ∧ SavM σ sv) := by
  obtain ⟨P, hP⟩ : ∃ P : Option Value → Sg → Prop, P = (fun rv sv => none = rv ∧ SavM σ sv) := ⟨_, rfl⟩
  rw [← hP]
  refine ct_of (lv := [(0, Rf G 46)]) (by decide +kernel) (Nat.le_of_ble_eq_true rfl) rfl ?_
  have h2 := hmi.2.1
  refine r_aload_n dX8_saves_0 rfl rfl ?_
  refine r_getI (z := 2) dX8_saves_1 sh46 rfl (ci := 8) (j := 2) rfl (Nat.le_of_ble_eq_true rfl) rfl ixX8 q644 rfl (hv := rfl) ?_
  refine r_bipush dX8_saves_4 rfl ?_
  refine r_icmp_ne (tgt := 49) dX8_saves_6 (by decide) (by omega) (fun hb1 => ?_) (fun hb1 => ?_)
  · skip
    refine r_aload_n dX8_saves_49 rfl rfl ?_
    refine r_getR (b := 47) dX8_saves_50 sh46 rfl (ci := 8) (j := 0) rfl (Nat.le_of_ble_eq_true rfl) ixX8 q642 rfl ?_
    refine r_iconst dX8_saves_53 ?_
    refine r_aload_n dX8_saves_54 rfl rfl ?_
    refine r_getR (b := 48) dX8_saves_55 sh46 rfl (ci := 8) (j := 1) rfl (Nat.le_of_ble_eq_true rfl) ixX8 q643 rfl ?_
    refine r_bipush dX8_saves_58 rfl ?_
    refine r_aload_n dX8_saves_60 rfl rfl ?_
    refine r_getI (z := 2) dX8_saves_61 sh46 rfl (ci := 8) (j := 2) rfl (Nat.le_of_ble_eq_true rfl) rfl ixX8 q644 rfl (hv := rfl) ?_
    refine r_imul dX8_saves_64 ?_
    refine r_callS (tX8_lays G σ 47 0 48 (116 * (σ 46 2)) 116 696 (sh47) (sh48) (by decide) (by omega)) dX8_saves_65 svX8_lays q680 rfl ⟨Nat.le_of_ble_eq_true rfl, Nat.le_of_ble_eq_true rfl⟩ (Nat.le_of_ble_eq_true rfl) ⟨Nat.le_of_ble_eq_true rfl, Nat.le_of_ble_eq_true rfl⟩ ?_
    rintro _ _ ⟨rfl, rfl⟩
    refine r_aload_n dX8_saves_68 rfl rfl ?_
    refine r_dup dX8_saves_69 rfl ?_
    refine r_getI (z := 2) dX8_saves_70 sh46 rfl (ci := 8) (j := 2) rfl (Nat.le_of_ble_eq_true rfl) rfl ixX8 q644 rfl (hv := rfl) ?_
    refine r_iconst dX8_saves_73 ?_
    refine r_iadd dX8_saves_74 ?_
    refine r_putI (z := 2) tyX8 dX8_saves_75 sh46 rfl (ci := 8) (j := 2) rfl (Nat.le_of_ble_eq_true rfl) rfl tyX8_ok nmX8 ixX8 q644 rfl rfl rfl ?_
    exact r_vret dX8_saves_78 rfl (by rw [hP]; exact ⟨rfl, by
    first
    | exact sav_of (n := σ 46 2) hmi (fun a p q => by rw [up_ne p, ly_ne q]) (fun j p => by rw [up_nj p, ly_ne (by decide)]) (by rw [if_neg (by omega)]) up_eq (fun j => by rw [up_ne (by decide), ly_at]; by_cases c : 116 * σ 46 2 ≤ j ∧ j < 116 * σ 46 2 + 116; (rw [if_pos c, if_pos c]; congr 1; omega); (rw [if_neg c, if_neg c, if_neg (by omega)]))
    | (have hk5 : k = 580 := by omega
       exact sav_of (n := σ 46 2 - 1) hmi (fun a p q => by rw [up_ne p, ly_ne q, up_ne p, hS, ov_ne q]) (fun j p => by rw [up_nj p, ly_ne (by decide), up_nj p, hS, ov_ne (by decide)]) (by rw [if_pos (by omega)]; omega) up_eq (fun j => by
         rw [up_ne (by decide), ly_at]
         by_cases c : 116 * (σ 46 2 - 1) ≤ j ∧ j < 116 * (σ 46 2 - 1) + 116
         · rw [if_pos c, if_pos c, up_ne (by decide), hS, ov_ne (by decide)]; congr 1; omega
         · rw [if_neg c, if_neg c, up_ne (by decide), hS, ov_at, hk5]
           by_cases d : 0 ≤ j ∧ j < 580
           · rw [if_pos d, if_pos ⟨by omega, d.1, d.2⟩]
           · rw [if_neg d, if_neg (by omega)]))⟩)
  · skip
    refine r_iconst dX8_saves_9 ?_
    refine r_istore_n (lv' := [(0, Rf G 46), (1, I 0)]) dX8_saves_10 rfl (Nat.le_of_ble_eq_true rfl) rfl ?_
    have L11 : ∀ (mm : Nat) (k : Int) (s : Sg), (580 - k).toNat = mm → (hk : 0 ≤ k ∧ k ≤ 580) → (hS : s = ov σ 48 0 k (fun j => σ 48 (j + 116))) → Rn G mX8_saves (rmD 2 0 0) E0 (Zn G false SH P 0 0) false SH 0 0 11 [(0, Rf G 46), (1, I k)] [] s := by
      intro mm
      induction mm using Nat.strongRecOn with
      | _ mm ih11 =>
      intro k s hm11 hk hS
      refine r_iload_n dX8_saves_11 rfl rfl ?_
      refine r_sipush dX8_saves_12 rfl ?_
      refine r_icmp_ge (tgt := 39) dX8_saves_15 (by decide) (by omega) (fun hb2 => ?_) (fun hb2 => ?_)
      · skip
        refine r_aload_n dX8_saves_39 rfl rfl ?_
        refine r_dup dX8_saves_40 rfl ?_
        refine r_getI (z := 2) dX8_saves_41 sh46 rfl (ci := 8) (j := 2) rfl (Nat.le_of_ble_eq_true rfl) rfl ixX8 q644 rfl (hv := congrFun ((by rw [hS, ov_ne (by decide)])) 2) ?_
        refine r_iconst dX8_saves_44 ?_
        refine r_isub dX8_saves_45 ?_
        refine r_putI (z := 2) tyX8 dX8_saves_46 sh46 rfl (ci := 8) (j := 2) rfl (Nat.le_of_ble_eq_true rfl) rfl tyX8_ok nmX8 ixX8 q644 rfl rfl rfl ?_
        refine r_aload_n dX8_saves_49 rfl rfl ?_
        refine r_getR (b := 47) dX8_saves_50 sh46 rfl (ci := 8) (j := 0) rfl (Nat.le_of_ble_eq_true rfl) ixX8 q642 rfl ?_
        refine r_iconst dX8_saves_53 ?_
        refine r_aload_n dX8_saves_54 rfl rfl ?_
        refine r_getR (b := 48) dX8_saves_55 sh46 rfl (ci := 8) (j := 1) rfl (Nat.le_of_ble_eq_true rfl) ixX8 q643 rfl ?_
        refine r_bipush dX8_saves_58 rfl ?_
        refine r_aload_n dX8_saves_60 rfl rfl ?_
        refine r_getI (z := 2) dX8_saves_61 sh46 rfl (ci := 8) (j := 2) rfl (Nat.le_of_ble_eq_true rfl) rfl ixX8 q644 rfl (hv := up_eq) ?_
        refine r_imul dX8_saves_64 ?_
        refine r_callS (tX8_lays G (up s 46 2 ((σ 46 2) - 1)) 47 0 48 (116 * ((σ 46 2) - 1)) 116 696 (sh47) (sh48) (by decide) (by omega)) dX8_saves_65 svX8_lays q680 rfl ⟨Nat.le_of_ble_eq_true rfl, Nat.le_of_ble_eq_true rfl⟩ (Nat.le_of_ble_eq_true rfl) ⟨Nat.le_of_ble_eq_true rfl, Nat.le_of_ble_eq_true rfl⟩ ?_
        rintro _ _ ⟨rfl, rfl⟩
        refine r_aload_n dX8_saves_68 rfl rfl ?_
        refine r_dup dX8_saves_69 rfl ?_
        refine r_getI (z := 2) dX8_saves_70 sh46 rfl (ci := 8) (j := 2) rfl (Nat.le_of_ble_eq_true rfl) rfl ixX8 q644 rfl (hv := rfl) ?_
        refine r_iconst dX8_saves_73 ?_
        refine r_iadd dX8_saves_74 ?_
        refine r_putI (z := 2) tyX8 dX8_saves_75 sh46 rfl (ci := 8) (j := 2) rfl (Nat.le_of_ble_eq_true rfl) rfl tyX8_ok nmX8 ixX8 q644 rfl rfl rfl ?_
        exact r_vret dX8_saves_78 rfl (by rw [hP]; exact ⟨rfl, by
    first
    | exact sav_of (n := σ 46 2) hmi (fun a p q => by rw [up_ne p, ly_ne q]) (fun j p => by rw [up_nj p, ly_ne (by decide)]) (by rw [if_neg (by omega)]) up_eq (fun j => by rw [up_ne (by decide), ly_at]; by_cases c : 116 * σ 46 2 ≤ j ∧ j < 116 * σ 46 2 + 116; (rw [if_pos c, if_pos c]; congr 1; omega); (rw [if_neg c, if_neg c, if_neg (by omega)]))
    | (have hk5 : k = 580 := by omega
       exact sav_of (n := σ 46 2 - 1) hmi (fun a p q => by rw [up_ne p, ly_ne q, up_ne p, hS, ov_ne q]) (fun j p => by rw [up_nj p, ly_ne (by decide), up_nj p, hS, ov_ne (by decide)]) (by rw [if_pos (by omega)]; omega) up_eq (fun j => by
         rw [up_ne (by decide), ly_at]
         by_cases c : 116 * (σ 46 2 - 1) ≤ j ∧ j < 116 * (σ 46 2 - 1) + 116
         · rw [if_pos c, if_pos c, up_ne (by decide), hS, ov_ne (by decide)]; congr 1; omega
         · rw [if_neg c, if_neg c, up_ne (by decide), hS, ov_at, hk5]
           by_cases d : 0 ≤ j ∧ j < 580
           · rw [if_pos d, if_pos ⟨by omega, d.1, d.2⟩]
           · rw [if_neg d, if_neg (by omega)]))⟩)
      · skip
        refine r_aload_n dX8_saves_18 rfl rfl ?_
        refine r_getR (b := 48) dX8_saves_19 sh46 rfl (ci := 8) (j := 1) rfl (Nat.le_of_ble_eq_true rfl) ixX8 q643 rfl ?_
        refine r_iload_n dX8_saves_22 rfl rfl ?_
        refine r_aload_n dX8_saves_23 rfl rfl ?_
        refine r_getR (b := 48) dX8_saves_24 sh46 rfl (ci := 8) (j := 1) rfl (Nat.le_of_ble_eq_true rfl) ixX8 q643 rfl ?_
        refine r_iload_n dX8_saves_27 rfl rfl ?_
        refine r_bipush dX8_saves_28 rfl ?_
        refine r_iadd dX8_saves_30 ?_
        refine r_iald dX8_saves_31 sh48 (by omega) (hv := (by rw [hS, ov_at, if_neg (by omega)])) ?_
        refine r_iast dX8_saves_32 sh48 (by omega) ?_
        refine r_iinc (lv' := [(0, Rf G 46), (1, I (k + 1))]) dX8_saves_33 (Nat.le_of_ble_eq_true rfl) rfl rfl ?_
        refine r_goto (tgt := 11) dX8_saves_36 (by decide) ?_
        exact ih11 _ (by omega) (k + 1) _ rfl (by omega) (by rw [hS]; exact ov_s hk.1 rfl)
    exact L11 _ 0 _ rfl (by omega) ((ov_0 (Int.le_refl _)).symm)
