
def ctF (w : Int → Int) (p m : Int) : Nat → Int
  | 0 => m
  | k + 1 => (dpC w (p - k).toNat (ctF w p m k)).2
theorem ctF_s {w : Int → Int} {p m l : Int} (h : l ≤ p) : ctF w p m (p - (l + -1)).toNat = (dpC w l.toNat (ctF w p m (p - l).toNat)).2 := by
  obtain ⟨k, rfl⟩ : ∃ k : Nat, l = p - (k : Int) := ⟨(p - l).toNat, by omega⟩
  rw [show (p - (p - (k : Int) + -1)).toNat = k + 1 by omega, show (p - (p - (k : Int))).toNat = k by omega]
  rfl
def fwF (c : Int → Int) (most : Int) : Nat → Int
  | 0 => -1
  | k + 1 => if fwF c most k = -1 then (if c ((k : Int) + 1) ≤ most then (k : Int) + 1 else -1) else fwF c most k
theorem fwF_n {c : Int → Int} {most p : Int} (h : 1 ≤ p) (e : fwF c most (p - 1).toNat = -1) (v : ¬ c p ≤ most) : fwF c most p.toNat = -1 := by
  obtain ⟨k, rfl⟩ : ∃ k : Nat, p = (k : Int) + 1 := ⟨(p - 1).toNat, by omega⟩
  rw [show ((k : Int) + 1 - 1).toNat = k by omega] at e
  rw [show ((k : Int) + 1).toNat = k + 1 by omega]
  simp only [fwF]; rw [if_pos e, if_neg v]
theorem fwF_stay {c : Int → Int} {most : Int} {k : Nat} (e : fwF c most k ≠ -1) : ∀ n, fwF c most (k + n) = fwF c most k
  | 0 => rfl
  | n + 1 => by
    show (if fwF c most (k + n) = -1 then _ else fwF c most (k + n)) = _
    rw [fwF_stay e n, if_neg e]
theorem fwF_is {c : Int → Int} {most p n : Int} (h : 1 ≤ p) (hn : p ≤ n) (e : fwF c most (p - 1).toNat = -1) (v : c p ≤ most) : fwF c most n.toNat = p := by
  obtain ⟨k, rfl⟩ : ∃ k : Nat, p = (k : Int) + 1 := ⟨(p - 1).toNat, by omega⟩
  rw [show ((k : Int) + 1 - 1).toNat = k by omega] at e
  have h1 : fwF c most (k + 1) = (k : Int) + 1 := by simp only [fwF]; rw [if_pos e, if_pos v]
  have h2 := fwF_stay (c := c) (most := most) (k := k + 1) (by rw [h1]; omega) (n.toNat - (k + 1))
  rw [show (k + 1) + (n.toNat - (k + 1)) = n.toNat by omega, h1] at h2
  exact h2
theorem fwF_c {c d : Int → Int} {most : Int} : ∀ k : Nat, (∀ p : Int, 1 ≤ p → p ≤ k → c p = d p) → fwF c most k = fwF d most k
  | 0, _ => rfl
  | k + 1, h => by
    simp only [fwF]; rw [fwF_c k (fun p a b => h p a (by omega)), h (k + 1) (by omega) (by omega)]
def mn (x y : Int) : Int := if x ≤ y then x else y
theorem mn_le {x y : Int} : mn x y ≤ x ∧ mn x y ≤ y := by unfold mn; split <;> omega
theorem mn_or {x y : Int} : mn x y = x ∨ mn x y = y := by unfold mn; split <;> omega
theorem mn_sum {t c x y : Int} : mn (mn t (c + x)) (c + y) = mn t (c + mn x y) := by
  unfold mn
  repeat' split
  all_goals omega
theorem mn_l {x y : Int} (h : x ≤ y) : mn x y = x := by unfold mn; rw [if_pos h]
def mnF (g : Int → Int) (a : Int) : Nat → Int
  | 0 => 1000000000
  | j + 1 => mn (mnF g a j) (g (a + (j : Int) + 1))
def eF (w : Int → Int) (n : Int) : Nat → Int → Int
  | 0, a => if a = n then 0 else 1000000000
  | k + 1, a => mnF (fun e => Sm w a e * Sm w a e + eF w n k e) a (n - a).toNat
theorem mnF_le {g : Int → Int} {a : Int} : ∀ j : Nat, mnF g a j ≤ 1000000000
  | 0 => Int.le_refl _
  | j + 1 => Int.le_trans mn_le.1 (mnF_le j)
theorem mnF_min {g : Int → Int} {a : Int} : ∀ (j : Nat) (e : Int), a < e → e ≤ a + j → mnF g a j ≤ g e
  | 0, e, h1, h2 => by omega
  | j + 1, e, h1, h2 => by
    by_cases z : e = a + j + 1
    · rw [z]; exact mn_le.2
    · exact Int.le_trans mn_le.1 (mnF_min j e h1 (by omega))
theorem mnF_at {g : Int → Int} {a : Int} : ∀ j : Nat, mnF g a j = 1000000000 ∨ ∃ e : Int, a < e ∧ e ≤ a + j ∧ mnF g a j = g e
  | 0 => Or.inl rfl
  | j + 1 => by
    rcases mn_or (x := mnF g a j) (y := g (a + (j : Int) + 1)) with h | h
    · rcases mnF_at (g := g) (a := a) j with h2 | ⟨e, h2, h3, h4⟩
      · exact Or.inl (h.trans h2)
      · exact Or.inr ⟨e, h2, by omega, h.trans h4⟩
    · exact Or.inr ⟨a + j + 1, by omega, by omega, h⟩
theorem mnF_s {g : Int → Int} {a e : Int} (h : a < e) : mnF g a (e - a).toNat = mn (mnF g a (e - 1 - a).toNat) (g e) := by
  obtain ⟨j, rfl⟩ : ∃ j : Nat, e = a + (j : Int) + 1 := ⟨(e - 1 - a).toNat, by omega⟩
  rw [show (a + (j : Int) + 1 - a).toNat = j + 1 by omega, show (a + (j : Int) + 1 - 1 - a).toNat = j by omega]
  rfl
/-- ways to cut, k parts from a on, ahead of b -/
def isP (w : Int → Int) : Nat → Int → Int → Int → Prop
  | 0, a, b, v => a = b ∧ v = 0
  | k + 1, a, b, v => ∃ c, a < c ∧ c ≤ b ∧ isP w k c b (v - Sm w a c * Sm w a c)
theorem isP_len {w : Int → Int} : ∀ (k : Nat) (a b v : Int), isP w k a b v → a + k ≤ b
  | 0, a, b, v, h => by have := h.1; omega
  | k + 1, a, b, v, ⟨c, h1, h2, h3⟩ => by have := isP_len k c b _ h3; omega
theorem isP_last {w : Int → Int} : ∀ (k : Nat) (a b v : Int), isP w (k + 1) a b v ↔ ∃ c, c < b ∧ isP w k a c (v - Sm w c b * Sm w c b)
  | 0, a, b, v => by
    constructor
    · rintro ⟨c, h1, h2, h3, h4⟩
      subst h3
      exact ⟨a, h1, rfl, h4⟩
    · rintro ⟨c, h1, h2, h3⟩
      subst h2
      exact ⟨b, h1, Int.le_refl _, rfl, h3⟩
  | k + 1, a, b, v => by
    constructor
    · rintro ⟨c, h1, h2, h3⟩
      obtain ⟨d, h4, h5⟩ := (isP_last k c b _).1 h3
      have h6 := isP_len _ _ _ _ h5
      refine ⟨d, h4, c, h1, by omega, ?_⟩
      rw [show v - Sm w d b * Sm w d b - Sm w a c * Sm w a c = v - Sm w a c * Sm w a c - Sm w d b * Sm w d b by omega]
      exact h5
    · rintro ⟨d, h4, c, h1, h2, h5⟩
      refine ⟨c, h1, by omega, ?_⟩
      apply (isP_last k c b _).2
      refine ⟨d, h4, ?_⟩
      rw [show v - Sm w a c * Sm w a c - Sm w d b * Sm w d b = v - Sm w d b * Sm w d b - Sm w a c * Sm w a c by omega]
      exact h5
theorem eF_min {w : Int → Int} {n : Int} : ∀ (k : Nat) (a v : Int), a ≤ n → isP w k a n v → eF w n k a ≤ v
  | 0, a, v, _, h => by simp only [eF]; rw [if_pos h.1, h.2]; exact Int.le_refl _
  | k + 1, a, v, ha, ⟨c, h1, h2, h3⟩ => by
    have ih := eF_min k c _ h2 h3
    have := mnF_min (g := fun e => Sm w a e * Sm w a e + eF w n k e) (a := a) (n - a).toNat c h1 (by omega)
    simp only [eF]
    omega
theorem eF_at {w : Int → Int} {n : Int} : ∀ (k : Nat) (a : Int), a ≤ n → 1000000000 ≤ eF w n k a ∨ isP w k a n (eF w n k a)
  | 0, a, _ => by
    simp only [eF]
    by_cases h : a = n
    · rw [if_pos h]; exact Or.inr ⟨h, rfl⟩
    · rw [if_neg h]; exact Or.inl (Int.le_refl _)
  | k + 1, a, ha => by
    simp only [eF]
    rcases mnF_at (g := fun e => Sm w a e * Sm w a e + eF w n k e) (a := a) (n - a).toNat with h | ⟨e, h1, h2, h3⟩
    · rw [h]; exact Or.inl (Int.le_refl _)
    · rcases eF_at (w := w) (n := n) k e (by omega) with h4 | h4
      · left
        rw [h3]
        have : 0 ≤ Sm w a e * Sm w a e := by
          rcases Int.le_total 0 (Sm w a e) with q | q
          · exact Int.mul_nonneg q q
          · exact Int.mul_nonneg_of_nonpos_of_nonpos q q
        omega
      · right
        rw [h3]
        refine ⟨e, h1, by omega, ?_⟩
        rw [show Sm w a e * Sm w a e + eF w n k e - Sm w a e * Sm w a e = eF w n k e by omega]
        exact h4
theorem bsF_le {prev w : Int → Int} {a0 n : Int} : ∀ (k : Nat) (j : Int), a0 ≤ j → j < a0 + k → (bsF prev w a0 n k).1 ≤ prev j + Sm w j n * Sm w j n
  | 0, j, h1, h2 => by omega
  | k + 1, j, h1, h2 => by
    have ih := bsF_le (prev := prev) (w := w) (a0 := a0) (n := n) k
    simp only [bsF]
    by_cases c : prev (a0 + k) + Sm w (a0 + k) n * Sm w (a0 + k) n < (bsF prev w a0 n k).1
    · rw [if_pos c]
      simp only []
      by_cases z : j = a0 + k
      · rw [z]; exact Int.le_refl _
      · have := ih j h1 (by omega); omega
    · rw [if_neg c]
      by_cases z : j = a0 + k
      · rw [z]; omega
      · exact ih j h1 (by omega)
theorem bsF_at {prev w : Int → Int} {a0 n : Int} : ∀ (k : Nat), (bsF prev w a0 n k).1 = 1000000000 ∨ ∃ j : Int, a0 ≤ j ∧ j < a0 + k ∧ (bsF prev w a0 n k).1 = prev j + Sm w j n * Sm w j n
  | 0 => Or.inl rfl
  | k + 1 => by
    simp only [bsF]
    by_cases c : prev (a0 + k) + Sm w (a0 + k) n * Sm w (a0 + k) n < (bsF prev w a0 n k).1
    · rw [if_pos c]; exact Or.inr ⟨a0 + k, by omega, by omega, rfl⟩
    · rw [if_neg c]
      rcases bsF_at (prev := prev) (w := w) (a0 := a0) (n := n) k with h | ⟨j, h1, h2, h3⟩
      · exact Or.inl h
      · exact Or.inr ⟨j, h1, by omega, h3⟩
theorem dpC_e {w : Int → Int} {p : Nat} {m : Int} (hp : p ≠ 0) : dpC w (p + 1) m = bsF (fun a => (dpC w p a).1) w (p : Int) m (m - p).toNat := by
  show bsF _ w (p : Int) m (cntA ((p : Int) + 1) m) = _
  unfold cntA
  rw [if_neg (by omega), show m - ((p : Int) + 1) + 1 = m - p by omega]
theorem dpC_1 {w : Int → Int} {m : Int} : dpC w 1 m = bsF (fun _ => 0) w 0 m 1 := rfl
theorem dpC_min {w : Int → Int} : ∀ (p : Nat) (m v : Int), 1 ≤ p → isP w p 0 m v → (dpC w p m).1 ≤ v
  | 0, m, v, h, _ => by omega
  | p + 1, m, v, _, hv => by
    obtain ⟨c, h1, h2⟩ := (isP_last p 0 m v).1 hv
    have hl := isP_len _ _ _ _ h2
    by_cases e : p = 0
    · subst e
      have h3 := bsF_le (prev := fun _ => 0) (w := w) (a0 := 0) (n := m) 1 0 (by omega) (by omega)
      have h4 : 0 = c ∧ v - Sm w c m * Sm w c m = 0 := h2
      rw [← h4.1] at h4
      rw [dpC_1]
      omega
    · have ih := dpC_min (w := w) p c _ (by omega) h2
      have h3 := bsF_le (prev := fun a => (dpC w p a).1) (w := w) (a0 := (p : Int)) (n := m) (m - p).toNat c (by omega) (by omega)
      rw [dpC_e e]
      omega
theorem dpC_at {w : Int → Int} {n : Int} (hn : n ≤ 10) (hw : ∀ i : Int, 0 ≤ i → i < n → 1 ≤ w i ∧ w i ≤ 99) : ∀ (p : Nat) (m : Int), 1 ≤ p → (p : Int) ≤ m → m ≤ n → isP w p 0 m (dpC w p m).1
  | 0, m, h, _, _ => by omega
  | p + 1, m, _, hpm, hm => by
    have hb := dpC_bd hn hw (p + 1) m (by omega) hpm hm
    apply (isP_last p 0 m _).2
    by_cases e : p = 0
    · subst e
      rcases bsF_at (prev := fun _ => 0) (w := w) (a0 := 0) (n := m) 1 with h | ⟨j, h1, h2, h3⟩
      · rw [show (0 + 1) = 1 from rfl, dpC_1, h] at hb; omega
      · refine ⟨j, by omega, ?_⟩
        rw [show (0 + 1) = 1 from rfl, dpC_1, h3]
        exact ⟨by omega, by omega⟩
    · rw [dpC_e e] at hb ⊢
      rcases bsF_at (prev := fun a => (dpC w p a).1) (w := w) (a0 := (p : Int)) (n := m) (m - p).toNat with h | ⟨j, h1, h2, h3⟩
      · rw [h] at hb; omega
      · refine ⟨j, by omega, ?_⟩
        rw [h3]
        rw [show (dpC w p j).1 + Sm w j m * Sm w j m - Sm w j m * Sm w j m = (dpC w p j).1 by omega]
        exact dpC_at hn hw p j (by omega) (by omega) (by omega)
theorem eF_dp {w : Int → Int} {n : Int} (hn : n ≤ 10) (hw : ∀ i : Int, 0 ≤ i → i < n → 1 ≤ w i ∧ w i ≤ 99) {p : Nat} (h1 : 1 ≤ p) (h2 : (p : Int) ≤ n) : eF w n p 0 = (dpC w p n).1 := by
  have a1 := dpC_at hn hw p n h1 h2 (Int.le_refl _)
  have a2 := eF_min (w := w) (n := n) p 0 _ (by omega) a1
  have a3 := (dpC_bd hn hw p n h1 h2 (Int.le_refl _)).1
  rcases eF_at (w := w) (n := n) p 0 (by omega) with h | h
  · omega
  · have := dpC_min (w := w) p n _ h1 h
    omega
theorem Sm_s {w : Int → Int} {a e : Int} (ha : 0 ≤ a) (h : a < e) : Sm w a (e - 1) + w (e - 1) = Sm w a e := by
  unfold Sm
  have := wsum_s (f := w) (i := e - 1) (by omega)
  rw [show e - 1 + 1 = e by omega] at this
  omega

set_option maxHeartbeats 1000000 in
set_option maxRecDepth 100000 in
theorem tX0_plannedCut (G : GT) (σ : Sg) (p c : Int) (hn : 1 ≤ σ 1 2 ∧ σ 1 2 ≤ 10) (hwt : ∀ i, 0 ≤ i → i < σ 1 2 → 1 ≤ σ 3 i ∧ σ 3 i ≤ 99) (h : 1 ≤ p ∧ p ≤ σ 1 2 ∧ 0 ≤ c ∧ c < p - 1) (hPl : ∀ q m, 1 ≤ q → q ≤ m → m ≤ σ 1 2 → σ 12 (11 * q + m) = (dpC (σ 3) q.toNat m).2) : Ct G mX0_plannedCut 2 0 0 false SH SH [Rf G 10, I p, I c] σ (fun rv sv => some (I (ctF (σ 3) p (σ 1 2) (p - c - 1).toNat)) = rv ∧ σ = sv) := by
  obtain ⟨P, hP⟩ : ∃ P : Option Value → Sg → Prop, P = (fun rv sv => some (I (ctF (σ 3) p (σ 1 2) (p - c - 1).toNat)) = rv ∧ σ = sv) := ⟨_, rfl⟩
  rw [← hP]
  refine ct_of (lv := [(0, Rf G 10), (1, I p), (2, I c)]) (by decide +kernel) (Nat.le_of_ble_eq_true rfl) rfl ?_
  refine r_aload_n dX0_plannedCut_0 rfl rfl ?_
  refine r_getR (b := 1) dX0_plannedCut_1 sh10 rfl (ci := 0) (j := 0) rfl (Nat.le_of_ble_eq_true rfl) ixX0 q89 rfl ?_
  refine r_getI (z := 2) dX0_plannedCut_4 sh1 rfl (ci := 5) (j := 2) rfl (Nat.le_of_ble_eq_true rfl) rfl ixX5 q44 rfl (hv := rfl) ?_
  refine r_istore_n (lv' := [(0, Rf G 10), (1, I p), (2, I c), (3, I (σ 1 2))]) dX0_plannedCut_7 rfl (Nat.le_of_ble_eq_true rfl) rfl ?_
  refine r_iload_n dX0_plannedCut_8 rfl rfl ?_
  refine r_istore (lv' := [(0, Rf G 10), (1, I p), (2, I c), (3, I (σ 1 2)), (4, I p)]) dX0_plannedCut_9 (Nat.le_of_ble_eq_true rfl) rfl ?_
  have L11 : ∀ (mm : Nat) (m l : Int), (l - c - 1).toNat = mm → (hl : c + 1 ≤ l ∧ l ≤ p) → (hm : m = ctF (σ 3) p (σ 1 2) (p - l).toNat) → (hb : l ≤ m ∧ m ≤ σ 1 2) → Rn G mX0_plannedCut (rmD 2 0 0) E0 (Zn G false SH P 0 0) false SH 0 0 11 [(0, Rf G 10), (1, I p), (2, I c), (3, I m), (4, I l)] [] σ := by
    intro mm
    induction mm using Nat.strongRecOn with
    | _ mm ih11 =>
    intro m l hm11 hl hm hb
    refine r_iload dX0_plannedCut_11 rfl ?_
    refine r_iload_n dX0_plannedCut_13 rfl rfl ?_
    refine r_iconst dX0_plannedCut_14 ?_
    refine r_iadd dX0_plannedCut_15 ?_
    refine r_icmp_le (tgt := 40) dX0_plannedCut_16 (by decide) (by omega) (fun hb1 => ?_) (fun hb1 => ?_)
    · skip
      refine r_iload_n dX0_plannedCut_40 rfl rfl ?_
      exact r_iret dX0_plannedCut_41 rfl (by rw [hP]; exact ⟨by rw [hm, show l = c + 1 by omega, show p - (c + 1) = p - c - 1 by omega], rfl⟩)
    · skip
      refine r_aload_n dX0_plannedCut_19 rfl rfl ?_
      refine r_getR (b := 12) dX0_plannedCut_20 sh10 rfl (ci := 0) (j := 2) rfl (Nat.le_of_ble_eq_true rfl) ixX0 q91 rfl ?_
      refine r_iload dX0_plannedCut_23 rfl ?_
      refine r_bipush dX0_plannedCut_25 rfl ?_
      refine r_imul dX0_plannedCut_27 ?_
      refine r_iload_n dX0_plannedCut_28 rfl rfl ?_
      refine r_iadd dX0_plannedCut_29 ?_
      refine r_callSN (tX7_numberIn G σ 12 ((l * 11) + m) 121 (sh12) (by omega)) dX0_plannedCut_30 svX7_numberIn nw12 rfl ⟨Nat.le_of_ble_eq_true rfl, Nat.le_of_ble_eq_true rfl⟩ (Nat.le_of_ble_eq_true rfl) ⟨Nat.le_of_ble_eq_true rfl, Nat.le_of_ble_eq_true rfl⟩ ?_
      rintro _ _ ⟨rfl, rfl⟩
      refine r_istore_n (lv' := [(0, Rf G 10), (1, I p), (2, I c), (3, I (σ 12 ((l * 11) + m))), (4, I l)]) dX0_plannedCut_33 rfl (Nat.le_of_ble_eq_true rfl) rfl ?_
      refine r_iinc (lv' := [(0, Rf G 10), (1, I p), (2, I c), (3, I (σ 12 ((l * 11) + m))), (4, I (l + (-1)))]) dX0_plannedCut_34 (Nat.le_of_ble_eq_true rfl) rfl rfl ?_
      refine r_goto (tgt := 11) dX0_plannedCut_37 (by decide) ?_
      have e9 : σ 12 (l * 11 + m) = (dpC (σ 3) l.toNat m).2 := by rw [show l * 11 + m = 11 * l + m by omega]; exact hPl l m (by omega) hb.1 hb.2
      have b9 := dpC_bd hn.2 hwt l.toNat m (by omega) (by omega) hb.2
      exact ih11 _ (by omega) _ (l + (-1)) rfl (by omega) (by rw [e9, ctF_s hl.2, ← hm]) (by rw [e9]; omega)
  exact L11 _ _ p rfl (by omega) (by rw [show (p - p).toNat = 0 by omega]; rfl) (by omega)
set_option maxHeartbeats 1000000 in
set_option maxRecDepth 100000 in
theorem tX0_fewestPartsFor (G : GT) (σ : Sg) (most : Int) (hn : 1 ≤ σ 1 2 ∧ σ 1 2 ≤ 10) (hwt : ∀ i, 0 ≤ i → i < σ 1 2 → 1 ≤ σ 3 i ∧ σ 3 i ≤ 99) (h : 1 ≤ most ∧ most ≤ 999999) (hPl : ∀ q, 1 ≤ q → q ≤ σ 1 2 → σ 11 (11 * q + σ 1 2) = (dpC (σ 3) q.toNat (σ 1 2)).1) : Ct G mX0_fewestPartsFor 3 0 0 false SH SH [Rf G 10, I most] σ (fun rv sv => some (I (fwF (fun q => (dpC (σ 3) q.toNat (σ 1 2)).1) most (σ 1 2).toNat)) = rv ∧ σ = sv) := by
  obtain ⟨P, hP⟩ : ∃ P : Option Value → Sg → Prop, P = (fun rv sv => some (I (fwF (fun q => (dpC (σ 3) q.toNat (σ 1 2)).1) most (σ 1 2).toNat)) = rv ∧ σ = sv) := ⟨_, rfl⟩
  rw [← hP]
  refine ct_of (lv := [(0, Rf G 10), (1, I most)]) (by decide +kernel) (Nat.le_of_ble_eq_true rfl) rfl ?_
  refine r_iconst dX0_fewestPartsFor_0 ?_
  refine r_istore_n (lv' := [(0, Rf G 10), (1, I most), (2, I 1)]) dX0_fewestPartsFor_1 rfl (Nat.le_of_ble_eq_true rfl) rfl ?_
  have L2 : ∀ (mm : Nat) (p : Int), (11 - p).toNat = mm → (hp : 1 ≤ p ∧ p ≤ σ 1 2 + 1) → (hf : fwF (fun q => (dpC (σ 3) q.toNat (σ 1 2)).1) most (p - 1).toNat = -1) → Rn G mX0_fewestPartsFor (rmD 3 0 0) E0 (Zn G false SH P 0 0) false SH 0 0 2 [(0, Rf G 10), (1, I most), (2, I p)] [] σ := by
    intro mm
    induction mm using Nat.strongRecOn with
    | _ mm ih2 =>
    intro p hm2 hp hf
    refine r_iload_n dX0_fewestPartsFor_2 rfl rfl ?_
    refine r_aload_n dX0_fewestPartsFor_3 rfl rfl ?_
    refine r_getR (b := 1) dX0_fewestPartsFor_4 sh10 rfl (ci := 0) (j := 0) rfl (Nat.le_of_ble_eq_true rfl) ixX0 q89 rfl ?_
    refine r_getI (z := 2) dX0_fewestPartsFor_7 sh1 rfl (ci := 5) (j := 2) rfl (Nat.le_of_ble_eq_true rfl) rfl ixX5 q44 rfl (hv := rfl) ?_
    refine r_icmp_gt (tgt := 30) dX0_fewestPartsFor_10 (by decide) (by omega) (fun hb1 => ?_) (fun hb1 => ?_)
    · skip
      refine r_iconst dX0_fewestPartsFor_30 ?_
      exact r_iret dX0_fewestPartsFor_31 rfl (by rw [hP]; exact ⟨by rw [show (σ 1 2).toNat = (p - 1).toNat by omega, hf], rfl⟩)
    · skip
      have e9 := hPl p hp.1 (by omega)
      have b9 := dpC_bd hn.2 hwt p.toNat (σ 1 2) (by omega) (by omega) (by omega)
      refine r_aload_n dX0_fewestPartsFor_13 rfl rfl ?_
      refine r_iload_n dX0_fewestPartsFor_14 rfl rfl ?_
      refine r_callV (tX0_plannedCost G σ p (by omega)) dX0_fewestPartsFor_15 svX0_plannedCost q376 sh10 (ci := 0) rfl rfl rfl ⟨Nat.le_of_ble_eq_true rfl, Nat.le_of_ble_eq_true rfl⟩ (Nat.le_of_ble_eq_true rfl) ⟨Nat.le_of_ble_eq_true rfl, Nat.le_of_ble_eq_true rfl⟩ ?_
      rintro _ _ ⟨rfl, rfl⟩
      refine r_iload_n dX0_fewestPartsFor_18 rfl rfl ?_
      refine r_icmp_gt (tgt := 24) dX0_fewestPartsFor_19 (by decide) (by omega) (fun hb2 => ?_) (fun hb2 => ?_)
      · skip
        refine r_iinc (lv' := [(0, Rf G 10), (1, I most), (2, I (p + 1))]) dX0_fewestPartsFor_24 (Nat.le_of_ble_eq_true rfl) rfl rfl ?_
        refine r_goto (tgt := 2) dX0_fewestPartsFor_27 (by decide) ?_
        exact ih2 _ (by omega) (p + 1) rfl (by omega) (by rw [show p + 1 - 1 = p by omega]; exact fwF_n hp.1 hf (by show ¬ (dpC (σ 3) p.toNat (σ 1 2)).1 ≤ most; omega))
      · skip
        refine r_iload_n dX0_fewestPartsFor_22 rfl rfl ?_
        exact r_iret dX0_fewestPartsFor_23 rfl (by rw [hP]; exact ⟨by rw [fwF_is hp.1 (by omega) hf (by show (dpC (σ 3) p.toNat (σ 1 2)).1 ≤ most; omega)], rfl⟩)
  exact L2 _ 1 rfl (by omega) (rfl)
set_option maxHeartbeats 1000000 in
set_option maxRecDepth 100000 in
theorem tJ9_min_7cf53 (G : GT) (σ : Sg) (x y : Int) (h : -2147483648 ≤ x ∧ x ≤ 2147483647 ∧ -2147483648 ≤ y ∧ y ≤ 2147483647) : Ct G mJ9_min_7cf53 1 0 0 false SH SH [I x, I y] σ (fun rv sv => some (I (mn x y)) = rv ∧ σ = sv) := by
  obtain ⟨P, hP⟩ : ∃ P : Option Value → Sg → Prop, P = (fun rv sv => some (I (mn x y)) = rv ∧ σ = sv) := ⟨_, rfl⟩
  rw [← hP]
  refine ct_ofF (lv := [(0, I x), (1, I y)]) (by decide +kernel) (Nat.le_of_ble_eq_true rfl) rfl ?_
  refine r_iload_n dJ9_min_7cf53_0 rfl rfl ?_
  refine r_iload_n dJ9_min_7cf53_1 rfl rfl ?_
  refine r_icmp_gt (tgt := 9) dJ9_min_7cf53_2 (by decide) (by omega) (fun hb1 => ?_) (fun hb1 => ?_)
  · skip
    refine r_iload_n dJ9_min_7cf53_9 rfl rfl ?_
    exact r_iret dJ9_min_7cf53_10 rfl (by rw [hP]; exact ⟨by unfold mn; first | rw [if_pos (show x ≤ y by omega)] | rw [if_neg (show ¬ x ≤ y by omega)], rfl⟩)
  · skip
    refine r_iload_n dJ9_min_7cf53_5 rfl rfl ?_
    refine r_goto (tgt := 10) dJ9_min_7cf53_6 (by decide) ?_
    exact r_iret dJ9_min_7cf53_10 rfl (by rw [hP]; exact ⟨by unfold mn; first | rw [if_pos (show x ≤ y by omega)] | rw [if_neg (show ¬ x ≤ y by omega)], rfl⟩)
