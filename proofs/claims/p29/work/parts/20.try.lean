variable {Ω : List Ob}

def ctF (w : Int → Int) (p m : Int) : Nat → Int
  | 0 => m
  | k + 1 => (dpC w (p - k).toNat (ctF w p m k)).2
theorem ctF_s {w : Int → Int} {p m l : Int} (h : l ≤ p) : ctF w p m (p - (l + -1)).toNat = (dpC w l.toNat (ctF w p m (p - l).toNat)).2 := by
  obtain ⟨k, rfl⟩ : ∃ k : Nat, l = p - (k : Int) := ⟨(p - l).toNat, by omega⟩
  rw [show (p - (p - (k : Int) + -1)).toNat = k + 1 by omega, show (p - (p - (k : Int))).toNat = k by omega]
  rfl
def fwF (c : Int → Int) (most : Int) : Nat → Int
  | 0 => -1
  | k + 1 => if fwF c most k = -1 then (if c ((k : Int) + 1) ≤ most then (k : Int) + 1 else -1) else fwF c most k
theorem fwF_n {c : Int → Int} {most p : Int} (h : 1 ≤ p) (e : fwF c most (p - 1).toNat = -1) (v : ¬ c p ≤ most) : fwF c most p.toNat = -1 := by
  obtain ⟨k, rfl⟩ : ∃ k : Nat, p = (k : Int) + 1 := ⟨(p - 1).toNat, by omega⟩
  rw [show ((k : Int) + 1 - 1).toNat = k by omega] at e
  rw [show ((k : Int) + 1).toNat = k + 1 by omega]
  simp only [fwF]; rw [if_pos e, if_neg v]
theorem fwF_stay {c : Int → Int} {most : Int} {k : Nat} (e : fwF c most k ≠ -1) : ∀ n, fwF c most (k + n) = fwF c most k
  | 0 => rfl
  | n + 1 => by
    show (if fwF c most (k + n) = -1 then _ else fwF c most (k + n)) = _
    rw [fwF_stay e n, if_neg e]
theorem fwF_is {c : Int → Int} {most p n : Int} (h : 1 ≤ p) (hn : p ≤ n) (e : fwF c most (p - 1).toNat = -1) (v : c p ≤ most) : fwF c most n.toNat = p := by
  obtain ⟨k, rfl⟩ : ∃ k : Nat, p = (k : Int) + 1 := ⟨(p - 1).toNat, by omega⟩
  rw [show ((k : Int) + 1 - 1).toNat = k by omega] at e
  have h1 : fwF c most (k + 1) = (k : Int) + 1 := by simp only [fwF]; rw [if_pos e, if_pos v]
  have h2 := fwF_stay (c := c) (most := most) (k := k + 1) (by rw [h1]; omega) (n.toNat - (k + 1))
  rw [show (k + 1) + (n.toNat - (k + 1)) = n.toNat by omega, h1] at h2
  exact h2
theorem fwF_c {c d : Int → Int} {most : Int} : ∀ k : Nat, (∀ p : Int, 1 ≤ p → p ≤ k → c p = d p) → fwF c most k = fwF d most k
  | 0, _ => rfl
  | k + 1, h => by
    simp only [fwF]; rw [fwF_c k (fun p a b => h p a (by omega)), h (k + 1) (by omega) (by omega)]
def mn (x y : Int) : Int := if x ≤ y then x else y
theorem mn_le {x y : Int} : mn x y ≤ x ∧ mn x y ≤ y := by unfold mn; split <;> omega
theorem mn_or {x y : Int} : mn x y = x ∨ mn x y = y := by unfold mn; split <;> omega
theorem mn_sum {t c x y : Int} : mn (mn t (c + x)) (c + y) = mn t (c + mn x y) := by
  unfold mn
  repeat' split
  all_goals omega
theorem mn_l {x y : Int} (h : x ≤ y) : mn x y = x := by unfold mn; rw [if_pos h]
def mnF (g : Int → Int) (a : Int) : Nat → Int
  | 0 => 1000000000
  | j + 1 => mn (mnF g a j) (g (a + (j : Int) + 1))
def eF (w : Int → Int) (n : Int) : Nat → Int → Int
  | 0, a => if a = n then 0 else 1000000000
  | k + 1, a => mnF (fun e => Sm w a e * Sm w a e + eF w n k e) a (n - a).toNat
theorem mnF_le {g : Int → Int} {a : Int} : ∀ j : Nat, mnF g a j ≤ 1000000000
  | 0 => Int.le_refl _
  | j + 1 => Int.le_trans mn_le.1 (mnF_le j)
theorem mnF_min {g : Int → Int} {a : Int} : ∀ (j : Nat) (e : Int), a < e → e ≤ a + j → mnF g a j ≤ g e
  | 0, e, h1, h2 => by omega
  | j + 1, e, h1, h2 => by
    by_cases z : e = a + j + 1
    · rw [z]; exact mn_le.2
    · exact Int.le_trans mn_le.1 (mnF_min j e h1 (by omega))
theorem mnF_at {g : Int → Int} {a : Int} : ∀ j : Nat, mnF g a j = 1000000000 ∨ ∃ e : Int, a < e ∧ e ≤ a + j ∧ mnF g a j = g e
  | 0 => Or.inl rfl
  | j + 1 => by
    rcases mn_or (x := mnF g a j) (y := g (a + (j : Int) + 1)) with h | h
    · rcases mnF_at (g := g) (a := a) j with h2 | ⟨e, h2, h3, h4⟩
      · exact Or.inl (h.trans h2)
      · exact Or.inr ⟨e, h2, by omega, h.trans h4⟩
    · exact Or.inr ⟨a + j + 1, by omega, by omega, h⟩
theorem mnF_s {g : Int → Int} {a e : Int} (h : a < e) : mnF g a (e - a).toNat = mn (mnF g a (e - 1 - a).toNat) (g e) := by
  obtain ⟨j, rfl⟩ : ∃ j : Nat, e = a + (j : Int) + 1 := ⟨(e - 1 - a).toNat, by omega⟩
  rw [show (a + (j : Int) + 1 - a).toNat = j + 1 by omega, show (a + (j : Int) + 1 - 1 - a).toNat = j by omega]
  rfl
/-- ways to cut, k parts from a on, ahead of b -/
def isP (w : Int → Int) : Nat → Int → Int → Int → Prop
  | 0, a, b, v => a = b ∧ v = 0
  | k + 1, a, b, v => ∃ c, a < c ∧ c ≤ b ∧ isP w k c b (v - Sm w a c * Sm w a c)
theorem isP_len {w : Int → Int} : ∀ (k : Nat) (a b v : Int), isP w k a b v → a + k ≤ b
  | 0, a, b, v, h => by have := h.1; omega
  | k + 1, a, b, v, ⟨c, h1, h2, h3⟩ => by have := isP_len k c b _ h3; omega
theorem isP_last {w : Int → Int} : ∀ (k : Nat) (a b v : Int), isP w (k + 1) a b v ↔ ∃ c, c < b ∧ isP w k a c (v - Sm w c b * Sm w c b)
  | 0, a, b, v => by
    constructor
    · rintro ⟨c, h1, h2, h3, h4⟩
      subst h3
      exact ⟨a, h1, rfl, h4⟩
    · rintro ⟨c, h1, h2, h3⟩
      subst h2
      exact ⟨b, h1, Int.le_refl _, rfl, h3⟩
  | k + 1, a, b, v => by
    constructor
    · rintro ⟨c, h1, h2, h3⟩
      obtain ⟨d, h4, h5⟩ := (isP_last k c b _).1 h3
      have h6 := isP_len _ _ _ _ h5
      refine ⟨d, h4, c, h1, by omega, ?_⟩
      rw [show v - Sm w d b * Sm w d b - Sm w a c * Sm w a c = v - Sm w a c * Sm w a c - Sm w d b * Sm w d b by omega]
      exact h5
    · rintro ⟨d, h4, c, h1, h2, h5⟩
      refine ⟨c, h1, by omega, ?_⟩
      apply (isP_last k c b _).2
      refine ⟨d, h4, ?_⟩
      rw [show v - Sm w a c * Sm w a c - Sm w d b * Sm w d b = v - Sm w d b * Sm w d b - Sm w a c * Sm w a c by omega]
      exact h5
theorem eF_min {w : Int → Int} {n : Int} : ∀ (k : Nat) (a v : Int), a ≤ n → isP w k a n v → eF w n k a ≤ v
  | 0, a, v, _, h => by simp only [eF]; rw [if_pos h.1, h.2]; exact Int.le_refl _
  | k + 1, a, v, ha, ⟨c, h1, h2, h3⟩ => by
    have ih := eF_min k c _ h2 h3
    have := mnF_min (g := fun e => Sm w a e * Sm w a e + eF w n k e) (a := a) (n - a).toNat c h1 (by omega)
    simp only [eF]
    omega
theorem eF_at {w : Int → Int} {n : Int} : ∀ (k : Nat) (a : Int), a ≤ n → 1000000000 ≤ eF w n k a ∨ isP w k a n (eF w n k a)
  | 0, a, _ => by
    simp only [eF]
    by_cases h : a = n
    · rw [if_pos h]; exact Or.inr ⟨h, rfl⟩
    · rw [if_neg h]; exact Or.inl (Int.le_refl _)
  | k + 1, a, ha => by
    simp only [eF]
    rcases mnF_at (g := fun e => Sm w a e * Sm w a e + eF w n k e) (a := a) (n - a).toNat with h | ⟨e, h1, h2, h3⟩
    · rw [h]; exact Or.inl (Int.le_refl _)
    · rcases eF_at (w := w) (n := n) k e (by omega) with h4 | h4
      · left
        rw [h3]
        have : 0 ≤ Sm w a e * Sm w a e := by
          rcases Int.le_total 0 (Sm w a e) with q | q
          · exact Int.mul_nonneg q q
          · exact Int.mul_nonneg_of_nonpos_of_nonpos q q
        omega
      · right
        rw [h3]
        refine ⟨e, h1, by omega, ?_⟩
        rw [show Sm w a e * Sm w a e + eF w n k e - Sm w a e * Sm w a e = eF w n k e by omega]
        exact h4
theorem bsF_le {prev w : Int → Int} {a0 n : Int} : ∀ (k : Nat) (j : Int), a0 ≤ j → j < a0 + k → (bsF prev w a0 n k).1 ≤ prev j + Sm w j n * Sm w j n
  | 0, j, h1, h2 => by omega
  | k + 1, j, h1, h2 => by
    have ih := bsF_le (prev := prev) (w := w) (a0 := a0) (n := n) k
    simp only [bsF]
    by_cases c : prev (a0 + k) + Sm w (a0 + k) n * Sm w (a0 + k) n < (bsF prev w a0 n k).1
    · rw [if_pos c]
      simp only []
      by_cases z : j = a0 + k
      · rw [z]; exact Int.le_refl _
      · have := ih j h1 (by omega); omega
    · rw [if_neg c]
      by_cases z : j = a0 + k
      · rw [z]; omega
      · exact ih j h1 (by omega)
theorem bsF_at {prev w : Int → Int} {a0 n : Int} : ∀ (k : Nat), (bsF prev w a0 n k).1 = 1000000000 ∨ ∃ j : Int, a0 ≤ j ∧ j < a0 + k ∧ (bsF prev w a0 n k).1 = prev j + Sm w j n * Sm w j n
  | 0 => Or.inl rfl
  | k + 1 => by
    simp only [bsF]
    by_cases c : prev (a0 + k) + Sm w (a0 + k) n * Sm w (a0 + k) n < (bsF prev w a0 n k).1
    · rw [if_pos c]; exact Or.inr ⟨a0 + k, by omega, by omega, rfl⟩
    · rw [if_neg c]
      rcases bsF_at (prev := prev) (w := w) (a0 := a0) (n := n) k with h | ⟨j, h1, h2, h3⟩
      · exact Or.inl h
      · exact Or.inr ⟨j, h1, by omega, h3⟩
theorem dpC_e {w : Int → Int} {p : Nat} {m : Int} (hp : p ≠ 0) : dpC w (p + 1) m = bsF (fun a => (dpC w p a).1) w (p : Int) m (m - p).toNat := by
  show bsF _ w (p : Int) m (cntA ((p : Int) + 1) m) = _
  unfold cntA
  rw [if_neg (by omega), show m - ((p : Int) + 1) + 1 = m - p by omega]
theorem dpC_1 {w : Int → Int} {m : Int} : dpC w 1 m = bsF (fun _ => 0) w 0 m 1 := rfl
theorem dpC_min {w : Int → Int} : ∀ (p : Nat) (m v : Int), 1 ≤ p → isP w p 0 m v → (dpC w p m).1 ≤ v
  | 0, m, v, h, _ => by omega
  | p + 1, m, v, _, hv => by
    obtain ⟨c, h1, h2⟩ := (isP_last p 0 m v).1 hv
    have hl := isP_len _ _ _ _ h2
    by_cases e : p = 0
    · subst e
      have h3 := bsF_le (prev := fun _ => 0) (w := w) (a0 := 0) (n := m) 1 0 (by omega) (by omega)
      have h4 : 0 = c ∧ v - Sm w c m * Sm w c m = 0 := h2
      rw [← h4.1] at h4
      rw [dpC_1]
      omega
    · have ih := dpC_min (w := w) p c _ (by omega) h2
      have h3 := bsF_le (prev := fun a => (dpC w p a).1) (w := w) (a0 := (p : Int)) (n := m) (m - p).toNat c (by omega) (by omega)
      rw [dpC_e e]
      omega
theorem dpC_at {w : Int → Int} {n : Int} (hn : n ≤ 10) (hw : ∀ i : Int, 0 ≤ i → i < n → 1 ≤ w i ∧ w i ≤ 99) : ∀ (p : Nat) (m : Int), 1 ≤ p → (p : Int) ≤ m → m ≤ n → isP w p 0 m (dpC w p m).1
  | 0, m, h, _, _ => by omega
  | p + 1, m, _, hpm, hm => by
    have hb := dpC_bd hn hw (p + 1) m (by omega) hpm hm
    apply (isP_last p 0 m _).2
    by_cases e : p = 0
    · subst e
      rcases bsF_at (prev := fun _ => 0) (w := w) (a0 := 0) (n := m) 1 with h | ⟨j, h1, h2, h3⟩
      · rw [show (0 + 1) = 1 from rfl, dpC_1, h] at hb; omega
      · refine ⟨j, by omega, ?_⟩
        rw [show (0 + 1) = 1 from rfl, dpC_1, h3]
        exact ⟨by omega, by omega⟩
    · rw [dpC_e e] at hb ⊢
      rcases bsF_at (prev := fun a => (dpC w p a).1) (w := w) (a0 := (p : Int)) (n := m) (m - p).toNat with h | ⟨j, h1, h2, h3⟩
      · rw [h] at hb; omega
      · refine ⟨j, by omega, ?_⟩
        rw [h3]
        rw [show (dpC w p j).1 + Sm w j m * Sm w j m - Sm w j m * Sm w j m = (dpC w p j).1 by omega]
        exact dpC_at hn hw p j (by omega) (by omega) (by omega)
theorem eF_dp {w : Int → Int} {n : Int} (hn : n ≤ 10) (hw : ∀ i : Int, 0 ≤ i → i < n → 1 ≤ w i ∧ w i ≤ 99) {p : Nat} (h1 : 1 ≤ p) (h2 : (p : Int) ≤ n) : eF w n p 0 = (dpC w p n).1 := by
  have a1 := dpC_at hn hw p n h1 h2 (Int.le_refl _)
  have a2 := eF_min (w := w) (n := n) p 0 _ (by omega) a1
  have a3 := (dpC_bd hn hw p n h1 h2 (Int.le_refl _)).1
  rcases eF_at (w := w) (n := n) p 0 (by omega) with h | h
  · omega
  · have := dpC_min (w := w) p n _ h1 h
    omega
theorem Sm_s {w : Int → Int} {a e : Int} (ha : 0 ≤ a) (h : a < e) : Sm w a (e - 1) + w (e - 1) = Sm w a e := by
  unfold Sm
  have := wsum_s (f := w) (i := e - 1) (by omega)
  rw [show e - 1 + 1 = e by omega] at this
  omega

set_option maxHeartbeats 1000000 in
set_option maxRecDepth 100000 in
theorem tX0_plannedCut (G : GT) (σ : Sg) (p c : Int) (hn : 1 ≤ σ 1 2 ∧ σ 1 2 ≤ 10) (hwt : ∀ i, 0 ≤ i → i < σ 1 2 → 1 ≤ σ 3 i ∧ σ 3 i ≤ 99) (h : 1 ≤ p ∧ p ≤ σ 1 2 ∧ 0 ≤ c ∧ c < p - 1) (hPl : ∀ q m, 1 ≤ q → q ≤ m → m ≤ σ 1 2 → σ 12 (11 * q + m) = (dpC (σ 3) q.toNat m).2) : Ct G mX0_plannedCut 2 0 0 false (SH Ω) (SH Ω) [Rf G 10, I p, I c] σ (fun rv sv => some (I (ctF (σ 3) p (σ 1 2) (p - c - 1).toNat)) = rv ∧ σ = sv) := by
  obtain ⟨P, hP⟩ : ∃ P : Option Value → Sg → Prop, P = (fun rv sv => some (I (ctF (σ 3) p (σ 1 2) (p - c - 1).toNat)) = rv ∧ σ = sv) := ⟨_, rfl⟩
  rw [← hP]
  refine ct_of (lv := [(0, Rf G 10), (1, I p), (2, I c)]) (by decide +kernel) (Nat.le_of_ble_eq_true rfl) rfl ?_
  refine r_aload_n dX0_plannedCut_0 rfl rfl ?_
  refine r_getR (b := 1) dX0_plannedCut_1 sh10 rfl (ci := 0) (j := 0) rfl (Nat.le_of_ble_eq_true rfl) ixX0 q87 rfl ?_
  refine r_getI (z := 2) dX0_plannedCut_4 sh1 rfl (ci := 5) (j := 2) rfl (Nat.le_of_ble_eq_true rfl) rfl ixX5 q42 rfl (hv := rfl) ?_
  refine r_istore_n (lv' := [(0, Rf G 10), (1, I p), (2, I c), (3, I (σ 1 2))]) dX0_plannedCut_7 rfl (Nat.le_of_ble_eq_true rfl) rfl ?_
  refine r_iload_n dX0_plannedCut_8 rfl rfl ?_
  refine r_istore (lv' := [(0, Rf G 10), (1, I p), (2, I c), (3, I (σ 1 2)), (4, I p)]) dX0_plannedCut_9 (Nat.le_of_ble_eq_true rfl) rfl ?_
  have L11 : ∀ (mm : Nat) (m l : Int), (l - c - 1).toNat = mm → (hl : c + 1 ≤ l ∧ l ≤ p) → (hm : m = ctF (σ 3) p (σ 1 2) (p - l).toNat) → (hb : l ≤ m ∧ m ≤ σ 1 2) → Rn G mX0_plannedCut (rmD 2 0 0) E0 (Zn G false (SH Ω) P 0 0) false (SH Ω) 0 0 11 [(0, Rf G 10), (1, I p), (2, I c), (3, I m), (4, I l)] [] σ := by
    intro mm
    induction mm using Nat.strongRecOn with
    | _ mm ih11 =>
    intro m l hm11 hl hm hb
    refine r_iload dX0_plannedCut_11 rfl ?_
    refine r_iload_n dX0_plannedCut_13 rfl rfl ?_
    refine r_iconst dX0_plannedCut_14 ?_
    refine r_iadd dX0_plannedCut_15 ?_
    refine r_icmp_le (tgt := 40) dX0_plannedCut_16 (by decide) (by omega) (fun hb1 => ?_) (fun hb1 => ?_)
    · skip
      refine r_iload_n dX0_plannedCut_40 rfl rfl ?_
      exact r_iret dX0_plannedCut_41 rfl (by rw [hP]; exact ⟨by rw [hm, show l = c + 1 by omega, show p - (c + 1) = p - c - 1 by omega], rfl⟩)
    · skip
      refine r_aload_n dX0_plannedCut_19 rfl rfl ?_
      refine r_getR (b := 12) dX0_plannedCut_20 sh10 rfl (ci := 0) (j := 2) rfl (Nat.le_of_ble_eq_true rfl) ixX0 q89 rfl ?_
      refine r_iload dX0_plannedCut_23 rfl ?_
      refine r_bipush dX0_plannedCut_25 rfl ?_
      refine r_imul dX0_plannedCut_27 ?_
      refine r_iload_n dX0_plannedCut_28 rfl rfl ?_
      refine r_iadd dX0_plannedCut_29 ?_
      refine r_callSN (tX7_numberIn G σ 12 ((l * 11) + m) 121 (sh12) (by omega)) dX0_plannedCut_30 svX7_numberIn nw13 rfl ⟨Nat.le_of_ble_eq_true rfl, Nat.le_of_ble_eq_true rfl⟩ (Nat.le_of_ble_eq_true rfl) ⟨Nat.le_of_ble_eq_true rfl, Nat.le_of_ble_eq_true rfl⟩ ?_
      rintro _ _ ⟨rfl, rfl⟩
      refine r_istore_n (lv' := [(0, Rf G 10), (1, I p), (2, I c), (3, I (σ 12 ((l * 11) + m))), (4, I l)]) dX0_plannedCut_33 rfl (Nat.le_of_ble_eq_true rfl) rfl ?_
      refine r_iinc (lv' := [(0, Rf G 10), (1, I p), (2, I c), (3, I (σ 12 ((l * 11) + m))), (4, I (l + (-1)))]) dX0_plannedCut_34 (Nat.le_of_ble_eq_true rfl) rfl rfl ?_
      refine r_goto (tgt := 11) dX0_plannedCut_37 (by decide) ?_
      have e9 : σ 12 (l * 11 + m) = (dpC (σ 3) l.toNat m).2 := by rw [show l * 11 + m = 11 * l + m by omega]; exact hPl l m (by omega) hb.1 hb.2
      have b9 := dpC_bd hn.2 hwt l.toNat m (by omega) (by omega) hb.2
      exact ih11 _ (by omega) _ (l + (-1)) rfl (by omega) (by rw [e9, ctF_s hl.2, ← hm]) (by rw [e9]; omega)
  exact L11 _ _ p rfl (by omega) (by rw [show (p - p).toNat = 0 by omega]; rfl) (by omega)
set_option maxHeartbeats 1000000 in
set_option maxRecDepth 100000 in
theorem tX0_fewestPartsFor (G : GT) (σ : Sg) (most : Int) (hn : 1 ≤ σ 1 2 ∧ σ 1 2 ≤ 10) (hwt : ∀ i, 0 ≤ i → i < σ 1 2 → 1 ≤ σ 3 i ∧ σ 3 i ≤ 99) (h : 1 ≤ most ∧ most ≤ 999999) (hPl : ∀ q, 1 ≤ q → q ≤ σ 1 2 → σ 11 (11 * q + σ 1 2) = (dpC (σ 3) q.toNat (σ 1 2)).1) : Ct G mX0_fewestPartsFor 3 0 0 false (SH Ω) (SH Ω) [Rf G 10, I most] σ (fun rv sv => some (I (fwF (fun q => (dpC (σ 3) q.toNat (σ 1 2)).1) most (σ 1 2).toNat)) = rv ∧ σ = sv) := by
  obtain ⟨P, hP⟩ : ∃ P : Option Value → Sg → Prop, P = (fun rv sv => some (I (fwF (fun q => (dpC (σ 3) q.toNat (σ 1 2)).1) most (σ 1 2).toNat)) = rv ∧ σ = sv) := ⟨_, rfl⟩
  rw [← hP]
  refine ct_of (lv := [(0, Rf G 10), (1, I most)]) (by decide +kernel) (Nat.le_of_ble_eq_true rfl) rfl ?_
  refine r_iconst dX0_fewestPartsFor_0 ?_
  refine r_istore_n (lv' := [(0, Rf G 10), (1, I most), (2, I 1)]) dX0_fewestPartsFor_1 rfl (Nat.le_of_ble_eq_true rfl) rfl ?_
  have L2 : ∀ (mm : Nat) (p : Int), (11 - p).toNat = mm → (hp : 1 ≤ p ∧ p ≤ σ 1 2 + 1) → (hf : fwF (fun q => (dpC (σ 3) q.toNat (σ 1 2)).1) most (p - 1).toNat = -1) → Rn G mX0_fewestPartsFor (rmD 3 0 0) E0 (Zn G false (SH Ω) P 0 0) false (SH Ω) 0 0 2 [(0, Rf G 10), (1, I most), (2, I p)] [] σ := by
    intro mm
    induction mm using Nat.strongRecOn with
    | _ mm ih2 =>
    intro p hm2 hp hf
    refine r_iload_n dX0_fewestPartsFor_2 rfl rfl ?_
    refine r_aload_n dX0_fewestPartsFor_3 rfl rfl ?_
    refine r_getR (b := 1) dX0_fewestPartsFor_4 sh10 rfl (ci := 0) (j := 0) rfl (Nat.le_of_ble_eq_true rfl) ixX0 q87 rfl ?_
    refine r_getI (z := 2) dX0_fewestPartsFor_7 sh1 rfl (ci := 5) (j := 2) rfl (Nat.le_of_ble_eq_true rfl) rfl ixX5 q42 rfl (hv := rfl) ?_
    refine r_icmp_gt (tgt := 30) dX0_fewestPartsFor_10 (by decide) (by omega) (fun hb1 => ?_) (fun hb1 => ?_)
    · skip
      refine r_iconst dX0_fewestPartsFor_30 ?_
      exact r_iret dX0_fewestPartsFor_31 rfl (by rw [hP]; exact ⟨by rw [show (σ 1 2).toNat = (p - 1).toNat by omega, hf], rfl⟩)
    · skip
      have e9 := hPl p hp.1 (by omega)
      have b9 := dpC_bd hn.2 hwt p.toNat (σ 1 2) (by omega) (by omega) (by omega)
      refine r_aload_n dX0_fewestPartsFor_13 rfl rfl ?_
      refine r_iload_n dX0_fewestPartsFor_14 rfl rfl ?_
      refine r_callV (tX0_plannedCost G σ p (by omega)) dX0_fewestPartsFor_15 svX0_plannedCost q528 sh10 (ci := 0) rfl rfl rfl ⟨Nat.le_of_ble_eq_true rfl, Nat.le_of_ble_eq_true rfl⟩ (Nat.le_of_ble_eq_true rfl) ⟨Nat.le_of_ble_eq_true rfl, Nat.le_of_ble_eq_true rfl⟩ ?_
      rintro _ _ ⟨rfl, rfl⟩
      refine r_iload_n dX0_fewestPartsFor_18 rfl rfl ?_
      refine r_icmp_gt (tgt := 24) dX0_fewestPartsFor_19 (by decide) (by omega) (fun hb2 => ?_) (fun hb2 => ?_)
      · skip
        refine r_iinc (lv' := [(0, Rf G 10), (1, I most), (2, I (p + 1))]) dX0_fewestPartsFor_24 (Nat.le_of_ble_eq_true rfl) rfl rfl ?_
        refine r_goto (tgt := 2) dX0_fewestPartsFor_27 (by decide) ?_
        exact ih2 _ (by omega) (p + 1) rfl (by omega) (by rw [show p + 1 - 1 = p by omega]; exact fwF_n hp.1 hf (by show ¬ (dpC (σ 3) p.toNat (σ 1 2)).1 ≤ most; omega))
      · skip
        refine r_iload_n dX0_fewestPartsFor_22 rfl rfl ?_
        exact r_iret dX0_fewestPartsFor_23 rfl (by rw [hP]; exact ⟨by rw [fwF_is hp.1 (by omega) hf (by show (dpC (σ 3) p.toNat (σ 1 2)).1 ≤ most; omega)], rfl⟩)
  exact L2 _ 1 rfl (by omega) (rfl)
set_option maxHeartbeats 1000000 in
set_option maxRecDepth 100000 in
theorem tJ9_min_7cf53 (G : GT) (σ : Sg) (x y : Int) (h : -2147483648 ≤ x ∧ x ≤ 2147483647 ∧ -2147483648 ≤ y ∧ y ≤ 2147483647) : Ct G mJ9_min_7cf53 1 0 0 false (SH Ω) (SH Ω) [I x, I y] σ (fun rv sv => some (I (mn x y)) = rv ∧ σ = sv) := by
  obtain ⟨P, hP⟩ : ∃ P : Option Value → Sg → Prop, P = (fun rv sv => some (I (mn x y)) = rv ∧ σ = sv) := ⟨_, rfl⟩
  rw [← hP]
  refine ct_ofF (lv := [(0, I x), (1, I y)]) (by decide +kernel) (Nat.le_of_ble_eq_true rfl) rfl ?_
  refine r_iload_n dJ9_min_7cf53_0 rfl rfl ?_
  refine r_iload_n dJ9_min_7cf53_1 rfl rfl ?_
  refine r_icmp_gt (tgt := 9) dJ9_min_7cf53_2 (by decide) (by omega) (fun hb1 => ?_) (fun hb1 => ?_)
  · skip
    refine r_iload_n dJ9_min_7cf53_9 rfl rfl ?_
    exact r_iret dJ9_min_7cf53_10 rfl (by rw [hP]; exact ⟨by unfold mn; first | rw [if_pos (show x ≤ y by omega)] | rw [if_neg (show ¬ x ≤ y by omega)], rfl⟩)
  · skip
    refine r_iload_n dJ9_min_7cf53_5 rfl rfl ?_
    refine r_goto (tgt := 10) dJ9_min_7cf53_6 (by decide) ?_
    exact r_iret dJ9_min_7cf53_10 rfl (by rw [hP]; exact ⟨by unfold mn; first | rw [if_pos (show x ≤ y by omega)] | rw [if_neg (show ¬ x ≤ y by omega)], rfl⟩)

def TryP (σ sv : Sg) (p ah c : Int) : Prop :=
  (∀ a, a ≠ 14 → sv a = σ a) ∧ (∀ q, p ≤ q → q ≤ σ 1 2 → sv 14 q = mn (σ 14 q) (c + eF (σ 3) (σ 1 2) (q - p + 1).toNat ah)) ∧ (∀ q, q < p → sv 14 q = σ 14 q)
theorem try_y {w : Int → Int} {n ah e t c : Int} {k : Nat} (h : ah < e) (x : Int) (hx : x = Sm w ah e * Sm w ah e + eF w n k e) :
    mn (mn t (c + mnF (fun z => Sm w ah z * Sm w ah z + eF w n k z) ah (e - 1 - ah).toNat)) (c + x) = mn t (c + mnF (fun z => Sm w ah z * Sm w ah z + eF w n k z) ah (e - ah).toNat) := by
  subst hx
  rw [mnF_s h, mn_sum]
theorem try_n {w : Int → Int} {n ah e : Int} {k : Nat} (h : ah < e) (hx : 1000000000 ≤ Sm w ah e * Sm w ah e + eF w n k e) :
    mnF (fun z => Sm w ah z * Sm w ah z + eF w n k z) ah (e - 1 - ah).toNat = mnF (fun z => Sm w ah z * Sm w ah z + eF w n k z) ah (e - ah).toNat := by
  rw [mnF_s h, mn_l (Int.le_trans (mnF_le _) hx)]


theorem eF_nn {w : Int → Int} {n : Int} : ∀ (k : Nat) (a : Int), 0 ≤ eF w n k a
  | 0, a => by simp only [eF]; split <;> omega
  | k + 1, a => by
    simp only [eF]
    rcases mnF_at (g := fun e => Sm w a e * Sm w a e + eF w n k e) (a := a) (n - a).toNat with h | ⟨e, h1, h2, h3⟩
    · rw [h]; omega
    · rw [h3]
      have h4 := eF_nn (w := w) (n := n) k e
      have : 0 ≤ Sm w a e * Sm w a e := by
        rcases Int.le_total 0 (Sm w a e) with q | q
        · exact Int.mul_nonneg q q
        · exact Int.mul_nonneg_of_nonpos_of_nonpos q q
      show 0 ≤ Sm w a e * Sm w a e + eF w n k e
      omega
theorem mnF_nn {w : Int → Int} {n ah : Int} {k : Nat} : ∀ j : Nat, 0 ≤ mnF (fun z => Sm w ah z * Sm w ah z + eF w n k z) ah j
  | 0 => by show (0 : Int) ≤ 1000000000; omega
  | j + 1 => by
    have ih := mnF_nn (w := w) (n := n) (ah := ah) (k := k) j
    have h4 := eF_nn (w := w) (n := n) k (ah + (j : Int) + 1)
    have : 0 ≤ Sm w ah (ah + (j : Int) + 1) * Sm w ah (ah + (j : Int) + 1) := by
      rcases Int.le_total 0 (Sm w ah (ah + (j : Int) + 1)) with q | q
      · exact Int.mul_nonneg q q
      · exact Int.mul_nonneg_of_nonpos_of_nonpos q q
    simp only [mnF]
    rcases mn_or (x := mnF (fun z => Sm w ah z * Sm w ah z + eF w n k z) ah j) (y := Sm w ah (ah + (j : Int) + 1) * Sm w ah (ah + (j : Int) + 1) + eF w n k (ah + (j : Int) + 1)) with h | h
    · rw [h]; exact ih
    · rw [h]; omega
set_option maxHeartbeats 1000000 in
set_option maxRecDepth 100000 in
theorem tX0_tryNextPart (G : GT) : ∀ (f : Nat) (σ : Sg) (p ah c : Int) (h : 1 ≤ p ∧ p ≤ ah + 1 ∧ 0 ≤ ah ∧ ah < σ 1 2 ∧ 0 ≤ c ∧ c ≤ 980100 * ah ∧ σ 1 2 - ah ≤ (f : Int)) (hn : 1 ≤ σ 1 2 ∧ σ 1 2 ≤ 10) (hwt : ∀ i, 0 ≤ i → i < σ 1 2 → 1 ≤ σ 3 i ∧ σ 3 i ≤ 99) (h14 : ∀ q, p ≤ q → q ≤ σ 1 2 → 0 ≤ σ 14 q ∧ σ 14 q ≤ 1000000000), Ct G mX0_tryNextPart (5 + f) 0 0 false (SH Ω) (SH Ω) [Rf G 10, I p, I ah, I c] σ (fun rv sv => none = rv ∧ TryP σ sv p ah c) := by
  intro f
  induction f with
  | zero =>
    intro σ p ah c h
    omega
  | succ f ih =>
    intro σ p ah c h hn hwt h14
    obtain ⟨P, hP⟩ : ∃ P : Option Value → Sg → Prop, P = (fun rv sv => none = rv ∧ TryP σ sv p ah c) := ⟨_, rfl⟩
    rw [← hP]
    refine ct_of (lv := [(0, Rf G 10), (1, I p), (2, I ah), (3, I c)]) (by decide +kernel) (Nat.le_of_ble_eq_true rfl) rfl ?_
    refine r_aload_n dX0_tryNextPart_0 rfl rfl ?_
    refine r_ifnull dX0_tryNextPart_1 ?_
    refine r_iload_n dX0_tryNextPart_4 rfl rfl ?_
    refine r_bipush dX0_tryNextPart_5 rfl ?_
    refine r_icmp_le (tgt := 11) dX0_tryNextPart_7 (by decide) (by omega) (fun hb1 => ?_) (fun hb1 => ?_)
    · skip
      refine r_aload_n dX0_tryNextPart_11 rfl rfl ?_
      refine r_getR (b := 1) dX0_tryNextPart_12 sh10 rfl (ci := 0) (j := 0) rfl (Nat.le_of_ble_eq_true rfl) ixX0 q87 rfl ?_
      refine r_getI (z := 2) dX0_tryNextPart_15 sh1 rfl (ci := 5) (j := 2) rfl (Nat.le_of_ble_eq_true rfl) rfl ixX5 q42 rfl (hv := rfl) ?_
      refine r_istore (lv' := [(0, Rf G 10), (1, I p), (2, I ah), (3, I c), (4, I (σ 1 2))]) dX0_tryNextPart_18 (Nat.le_of_ble_eq_true rfl) rfl ?_
      refine r_iconst dX0_tryNextPart_20 ?_
      refine r_istore (lv' := [(0, Rf G 10), (1, I p), (2, I ah), (3, I c), (4, I (σ 1 2)), (5, I 0)]) dX0_tryNextPart_21 (Nat.le_of_ble_eq_true rfl) rfl ?_
      refine r_iload_n dX0_tryNextPart_23 rfl rfl ?_
      refine r_iconst dX0_tryNextPart_24 ?_
      refine r_iadd dX0_tryNextPart_25 ?_
      refine r_istore (lv' := [(0, Rf G 10), (1, I p), (2, I ah), (3, I c), (4, I (σ 1 2)), (5, I 0), (6, I (ah + 1))]) dX0_tryNextPart_26 (Nat.le_of_ble_eq_true rfl) rfl ?_
      have L28 : ∀ (mm : Nat) (pt e : Int) (s : Sg), (σ 1 2 + 1 - e).toNat = mm → (he : ah + 1 ≤ e ∧ e ≤ σ 1 2 + 1) → (hpt : pt = Sm (σ 3) ah (e - 1)) → (sfr : ∀ a, a ≠ 14 → s a = σ a) → (sq : ∀ q, p ≤ q → q ≤ σ 1 2 → s 14 q = mn (σ 14 q) (c + mnF (fun z => Sm (σ 3) ah z * Sm (σ 3) ah z + eF (σ 3) (σ 1 2) (q - p).toNat z) ah (e - 1 - ah).toNat)) → (slo : ∀ q, q < p → s 14 q = σ 14 q) → Rn G mX0_tryNextPart (rmD (5 + (f + 1)) 0 0) E0 (Zn G false (SH Ω) P 0 0) false (SH Ω) 0 0 28 [(0, Rf G 10), (1, I p), (2, I ah), (3, I c), (4, I (σ 1 2)), (5, I pt), (6, I e)] [] s := by
        intro mm
        induction mm using Nat.strongRecOn with
        | _ mm ih28 =>
        intro pt e s hm28 he hpt sfr sq slo
        refine r_iload dX0_tryNextPart_28 rfl ?_
        refine r_iload dX0_tryNextPart_30 rfl ?_
        refine r_icmp_gt (tgt := 106) dX0_tryNextPart_32 (by decide) (by omega) (fun hb2 => ?_) (fun hb2 => ?_)
        · skip
          exact r_vret dX0_tryNextPart_106 rfl (by rw [hP]; exact ⟨rfl, sfr, by
      intro q a b
      rw [sq q a b, show e - 1 - ah = σ 1 2 - ah by omega, show (q - p + 1).toNat = (q - p).toNat + 1 by omega]
      rfl, slo⟩)
        · skip
          refine r_iload dX0_tryNextPart_35 rfl ?_
          refine r_aload_n dX0_tryNextPart_37 rfl rfl ?_
          refine r_getR (b := 1) dX0_tryNextPart_38 sh10 rfl (ci := 0) (j := 0) rfl (Nat.le_of_ble_eq_true rfl) ixX0 q87 rfl ?_
          refine r_iload dX0_tryNextPart_41 rfl ?_
          refine r_iconst dX0_tryNextPart_43 ?_
          refine r_isub dX0_tryNextPart_44 ?_
          refine r_callV (tX5_weightAt G s (e - 1) (by omega)) dX0_tryNextPart_45 svX5_weightAt q487 sh1 (ci := 5) rfl rfl rfl ⟨by show 2 + 1 ≤ (5 + (f + 1)); omega, by show 8 + (2 + 11) + 40 * 2 ≤ 40 * (5 + (f + 1)); omega⟩ (Nat.le_of_ble_eq_true rfl) ⟨Nat.le_of_ble_eq_true rfl, Nat.le_of_ble_eq_true rfl⟩ ?_
          rintro _ _ ⟨rfl, rfl⟩
          rw [show s 3 (e - 1) = σ 3 (e - 1) from congrFun (sfr 3 (by decide)) (e - 1)]
          refine r_iadd dX0_tryNextPart_48 ?_
          refine r_istore (lv' := [(0, Rf G 10), (1, I p), (2, I ah), (3, I c), (4, I (σ 1 2)), (5, I (pt + (σ 3 (e - 1)))), (6, I e)]) dX0_tryNextPart_49 (Nat.le_of_ble_eq_true rfl) rfl ?_
          obtain ⟨x, hx⟩ : ∃ z, z = pt + (σ 3 (e - 1)) := ⟨_, rfl⟩
          rw [← hx]
          have hxe : x = Sm (σ 3) ah e := by rw [hx, hpt]; exact Sm_s (by omega) (by omega)
          have hxb := Sm_bd (w := σ 3) (n := σ 1 2) hn.2 hwt (a := ah) (b := e) (by omega) (by omega) (by omega)
          rw [← hxe] at hxb
          have hxq := sq_bd hxb
          have hcb : 0 ≤ c + x * x ∧ c + x * x ≤ 980100 * e := by omega
          clear hx
          refine r_iload dX0_tryNextPart_51 rfl ?_
          refine r_iload dX0_tryNextPart_53 rfl ?_
          refine r_icmp_ge (tgt := 77) dX0_tryNextPart_55 (by decide) (by omega) (fun hb3 => ?_) (fun hb3 => ?_)
          · skip
            refine r_aload_n dX0_tryNextPart_77 rfl rfl ?_
            refine r_getR (b := 14) dX0_tryNextPart_78 sh10 rfl (ci := 0) (j := 4) rfl (Nat.le_of_ble_eq_true rfl) ixX0 q91 rfl ?_
            refine r_iload_n dX0_tryNextPart_81 rfl rfl ?_
            refine r_aload_n dX0_tryNextPart_82 rfl rfl ?_
            refine r_iload_n dX0_tryNextPart_83 rfl rfl ?_
            refine r_callV (tX0_triedCost G s p (by omega)) dX0_tryNextPart_84 svX0_triedCost q505 sh10 (ci := 0) rfl rfl rfl ⟨by show 2 + 1 ≤ (5 + (f + 1)); omega, by show 8 + (2 + 11) + 40 * 2 ≤ 40 * (5 + (f + 1)); omega⟩ (Nat.le_of_ble_eq_true rfl) ⟨Nat.le_of_ble_eq_true rfl, Nat.le_of_ble_eq_true rfl⟩ ?_
            rintro _ _ ⟨rfl, rfl⟩
            have hsp := sq p (Int.le_refl _) (by omega)
            have q1 := h14 p (Int.le_refl _) (by omega)
            have q3 := mnF_nn (w := σ 3) (n := σ 1 2) (ah := ah) (k := (p - p).toNat) (e - 1 - ah).toNat
            have q2 := mn_le (x := σ 14 p) (y := c + mnF (fun z => Sm (σ 3) ah z * Sm (σ 3) ah z + eF (σ 3) (σ 1 2) (p - p).toNat z) ah (e - 1 - ah).toNat)
            have q4 := mn_or (x := σ 14 p) (y := c + mnF (fun z => Sm (σ 3) ah z * Sm (σ 3) ah z + eF (σ 3) (σ 1 2) (p - p).toNat z) ah (e - 1 - ah).toNat)
            refine r_iload_n dX0_tryNextPart_87 rfl rfl ?_
            refine r_iload dX0_tryNextPart_88 rfl ?_
            refine r_iload dX0_tryNextPart_90 rfl ?_
            refine r_imul dX0_tryNextPart_92 ?_
            refine r_iadd dX0_tryNextPart_93 ?_
            refine r_callS (tJ9_min_7cf53 G s (s 14 p) (c + (x * x)) (by omega)) dX0_tryNextPart_94 svJ9_min_7cf53 q509 rfl ⟨by show 1 + 1 ≤ (5 + (f + 1)); omega, by show 8 + (2 + 11) + 40 * 1 ≤ 40 * (5 + (f + 1)); omega⟩ (Nat.le_of_ble_eq_true rfl) ⟨Nat.le_of_ble_eq_true rfl, Nat.le_of_ble_eq_true rfl⟩ ?_
            rintro _ _ ⟨rfl, rfl⟩
            refine r_callSN (tX7_setIn G s 14 p (mn (s 14 p) (c + (x * x))) 11 (sh14) (by omega)) dX0_tryNextPart_97 svX7_setIn nw12 rfl ⟨by show 1 + 1 ≤ (5 + (f + 1)); omega, by show 8 + (3 + 11) + 40 * 1 ≤ 40 * (5 + (f + 1)); omega⟩ (Nat.le_of_ble_eq_true rfl) ⟨Nat.le_of_ble_eq_true rfl, Nat.le_of_ble_eq_true rfl⟩ ?_
            rintro _ _ ⟨rfl, rfl⟩
            have ufr : ∀ a, a ≠ 14 → up s 14 p (mn (s 14 p) (c + x * x)) a = σ a := fun a ha => by rw [up_ne ha, sfr a ha]
            have uq : ∀ q, p ≤ q → q ≤ σ 1 2 → up s 14 p (mn (s 14 p) (c + x * x)) 14 q = mn (σ 14 q) (c + mnF (fun z => Sm (σ 3) ah z * Sm (σ 3) ah z + eF (σ 3) (σ 1 2) (q - p).toNat z) ah (e + 1 - 1 - ah).toNat) := by
                                        intro q a b
                                        rw [show e + 1 - 1 = e by omega]
                                        by_cases z : q = p
                                        · rw [z, up_eq, hsp]
                                          exact try_y (by omega) _ (by rw [hxe, show (p - p).toNat = 0 by omega]; simp only [eF]; rw [if_pos (by omega)]; omega)
                                        · rw [up_nj z, sq q a b, try_n (by omega) (by obtain ⟨k, hk⟩ : ∃ k : Nat, (q - p).toNat = k + 1 := ⟨(q - p).toNat - 1, by omega⟩; rw [hk]; simp only [eF]; rw [show (σ 1 2 - e).toNat = 0 by omega, ← hxe]; simp only [mnF]; omega)]
            have ulo : ∀ q, q < p → up s 14 p (mn (s 14 p) (c + x * x)) 14 q = σ 14 q := fun q hq => by rw [up_nj (by omega), slo q hq]
            refine r_iinc (lv' := [(0, Rf G 10), (1, I p), (2, I ah), (3, I c), (4, I (σ 1 2)), (5, I x), (6, I (e + 1))]) dX0_tryNextPart_100 (Nat.le_of_ble_eq_true rfl) rfl rfl ?_
            refine r_goto (tgt := 28) dX0_tryNextPart_103 (by decide) ?_
            exact ih28 _ (by omega) _ (e + 1) _ rfl (by omega) (by rw [show e + 1 - 1 = e by omega]; exact hxe) (ufr) (uq) (ulo)
          · skip
            refine r_aload_n dX0_tryNextPart_58 rfl rfl ?_
            refine r_iload_n dX0_tryNextPart_59 rfl rfl ?_
            refine r_iconst dX0_tryNextPart_60 ?_
            refine r_iadd dX0_tryNextPart_61 ?_
            refine r_iload dX0_tryNextPart_62 rfl ?_
            refine r_iload_n dX0_tryNextPart_64 rfl rfl ?_
            refine r_iload dX0_tryNextPart_65 rfl ?_
            refine r_iload dX0_tryNextPart_67 rfl ?_
            refine r_imul dX0_tryNextPart_69 ?_
            refine r_iadd dX0_tryNextPart_70 ?_
            refine r_callS (ih s (p + 1) e (c + (x * x)) (by rw [sfr 1 (by decide)]; omega) (by rw [sfr 1 (by decide)]; exact hn) (by rw [sfr 1 (by decide), sfr 3 (by decide)]; exact hwt) (by rw [sfr 1 (by decide)]; intro q a b; rw [sq q (by omega) b]; have q1 := h14 q (by omega) b; have q2 := mn_le (x := σ 14 q) (y := c + mnF (fun z => Sm (σ 3) ah z * Sm (σ 3) ah z + eF (σ 3) (σ 1 2) (q - p).toNat z) ah (e - 1 - ah).toNat); have q3 := mnF_nn (w := σ 3) (n := σ 1 2) (ah := ah) (k := (q - p).toNat) (e - 1 - ah).toNat; have q4 := mn_or (x := σ 14 q) (y := c + mnF (fun z => Sm (σ 3) ah z * Sm (σ 3) ah z + eF (σ 3) (σ 1 2) (q - p).toNat z) ah (e - 1 - ah).toNat); omega)) dX0_tryNextPart_71 svX0_tryNextPart q502 rfl ⟨by show (5 + f) + 1 ≤ (5 + (f + 1)); omega, by show 8 + (7 + 11) + 40 * (5 + f) ≤ 40 * (5 + (f + 1)); omega⟩ (Nat.le_of_ble_eq_true rfl) ⟨Nat.le_of_ble_eq_true rfl, Nat.le_of_ble_eq_true rfl⟩ ?_
            rintro _ u ⟨rfl, hu⟩
            obtain ⟨u1, u2, u3⟩ := hu
            rw [sfr 1 (by decide), sfr 3 (by decide)] at u2
            have ufr : ∀ a, a ≠ 14 → u a = σ a := fun a ha => by rw [u1 a ha, sfr a ha]
            have uq : ∀ q, p ≤ q → q ≤ σ 1 2 → u 14 q = mn (σ 14 q) (c + mnF (fun z => Sm (σ 3) ah z * Sm (σ 3) ah z + eF (σ 3) (σ 1 2) (q - p).toNat z) ah (e + 1 - 1 - ah).toNat) := by
                                        intro q a b
                                        rw [show e + 1 - 1 = e by omega]
                                        by_cases z : q = p
                                        · rw [u3 q (by omega), sq q a b, try_n (by omega) (by rw [z, show (p - p).toNat = 0 by omega]; simp only [eF]; rw [if_neg (by omega), ← hxe]; omega)]
                                        · rw [u2 q (by omega) b, sq q a b, show (q - (p + 1) + 1).toNat = (q - p).toNat by omega, show c + x * x + eF (σ 3) (σ 1 2) (q - p).toNat e = c + (x * x + eF (σ 3) (σ 1 2) (q - p).toNat e) by omega]
                                          exact try_y (by omega) _ (by rw [hxe])
            have ulo : ∀ q, q < p → u 14 q = σ 14 q := fun q hq => by rw [u3 q (by omega), slo q hq]
            refine r_goto (tgt := 100) dX0_tryNextPart_74 (by decide) ?_
            refine r_iinc (lv' := [(0, Rf G 10), (1, I p), (2, I ah), (3, I c), (4, I (σ 1 2)), (5, I x), (6, I (e + 1))]) dX0_tryNextPart_100 (Nat.le_of_ble_eq_true rfl) rfl rfl ?_
            refine r_goto (tgt := 28) dX0_tryNextPart_103 (by decide) ?_
            exact ih28 _ (by omega) _ (e + 1) _ rfl (by omega) (by rw [show e + 1 - 1 = e by omega]; exact hxe) (ufr) (uq) (ulo)
      exact L28 _ 0 _ _ rfl (by omega) (by rw [show ah + 1 - 1 = ah by omega]; unfold Sm; omega) (fun _ _ => rfl) (by intro q a b; rw [show (ah + 1 - 1 - ah).toNat = 0 by omega]; have := h14 q a b; exact (mn_l (by show σ 14 q ≤ c + 1000000000; omega)).symm) (fun _ _ => rfl)
    · skip
      exact absurd hb1 (by omega)

def TriedP (σ sv : Sg) : Prop := (∀ a, a ≠ 14 → sv a = σ a) ∧ ∀ q, 1 ≤ q → q ≤ σ 1 2 → sv 14 q = (dpC (σ 3) q.toNat (σ 1 2)).1
set_option maxHeartbeats 1000000 in
set_option maxRecDepth 100000 in
theorem tX0_tryAllCuts (G : GT) (σ : Sg)  (hn : 1 ≤ σ 1 2 ∧ σ 1 2 ≤ 10) (hwt : ∀ i, 0 ≤ i → i < σ 1 2 → 1 ≤ σ 3 i ∧ σ 3 i ≤ 99) : Ct G mX0_tryAllCuts 16 0 0 false (SH Ω) (SH Ω) [Rf G 10] σ (fun rv sv => none = rv ∧ TriedP σ sv) := by
  obtain ⟨P, hP⟩ : ∃ P : Option Value → Sg → Prop, P = (fun rv sv => none = rv ∧ TriedP σ sv) := ⟨_, rfl⟩
  rw [← hP]
  refine ct_of (lv := [(0, Rf G 10)]) (by decide +kernel) (Nat.le_of_ble_eq_true rfl) rfl ?_
  refine r_iconst dX0_tryAllCuts_0 ?_
  refine r_istore_n (lv' := [(0, Rf G 10), (1, I 1)]) dX0_tryAllCuts_1 rfl (Nat.le_of_ble_eq_true rfl) rfl ?_
  have L2 : ∀ (mm : Nat) (q : Int) (s : Sg), (11 - q).toNat = mm → (hq : 1 ≤ q ∧ q ≤ σ 1 2 + 1) → (hS : s = ov σ 14 1 q (fun _ => 1000000000)) → Rn G mX0_tryAllCuts (rmD 16 0 0) E0 (Zn G false (SH Ω) P 0 0) false (SH Ω) 0 0 2 [(0, Rf G 10), (1, I q)] [] s := by
    intro mm
    induction mm using Nat.strongRecOn with
    | _ mm ih2 =>
    intro q s hm2 hq hS
    have e1 : s 1 = σ 1 := by rw [hS, ov_ne (by decide)]
    have e3 : s 3 = σ 3 := by rw [hS, ov_ne (by decide)]
    refine r_iload_n dX0_tryAllCuts_2 rfl rfl ?_
    refine r_aload_n dX0_tryAllCuts_3 rfl rfl ?_
    refine r_getR (b := 1) dX0_tryAllCuts_4 sh10 rfl (ci := 0) (j := 0) rfl (Nat.le_of_ble_eq_true rfl) ixX0 q87 rfl ?_
    refine r_getI (z := 2) dX0_tryAllCuts_7 sh1 rfl (ci := 5) (j := 2) rfl (Nat.le_of_ble_eq_true rfl) rfl ixX5 q42 rfl (hv := congrFun (e1) 2) ?_
    refine r_icmp_gt (tgt := 29) dX0_tryAllCuts_10 (by decide) (by omega) (fun hb1 => ?_) (fun hb1 => ?_)
    · skip
      refine r_aload_n dX0_tryAllCuts_29 rfl rfl ?_
      refine r_iconst dX0_tryAllCuts_30 ?_
      refine r_iconst dX0_tryAllCuts_31 ?_
      refine r_iconst dX0_tryAllCuts_32 ?_
      refine r_callS (tX0_tryNextPart G 10 s 1 0 0 (by rw [e1]; omega) (by rw [e1]; exact hn) (by rw [e1, e3]; exact hwt) (by rw [e1]; intro r a b; rw [hS, ov_at, if_pos (by omega)]; omega)) dX0_tryAllCuts_33 svX0_tryNextPart q502 rfl ⟨Nat.le_of_ble_eq_true rfl, Nat.le_of_ble_eq_true rfl⟩ (Nat.le_of_ble_eq_true rfl) ⟨Nat.le_of_ble_eq_true rfl, Nat.le_of_ble_eq_true rfl⟩ ?_
      rintro _ u ⟨rfl, hu⟩
      obtain ⟨u1, u2, u3⟩ := hu
      rw [e1, e3] at u2
      exact r_vret dX0_tryAllCuts_36 rfl (by rw [hP]; exact ⟨rfl, fun a ha => by rw [u1 a ha, hS, ov_ne ha], by
      intro r a b
      rw [u2 r a b, hS, ov_at, if_pos (by omega), Int.zero_add, show (r - 1 + 1).toNat = r.toNat by omega, eF_dp hn.2 hwt (by omega) (by omega)]
      have hb := dpC_bd hn.2 hwt r.toNat (σ 1 2) (by omega) (by omega) (Int.le_refl _)
      unfold mn
      split <;> omega⟩)
    · skip
      refine r_aload_n dX0_tryAllCuts_13 rfl rfl ?_
      refine r_getR (b := 14) dX0_tryAllCuts_14 sh10 rfl (ci := 0) (j := 4) rfl (Nat.le_of_ble_eq_true rfl) ixX0 q91 rfl ?_
      refine r_iload_n dX0_tryAllCuts_17 rfl rfl ?_
      refine r_ldc (z := 1000000000) dX0_tryAllCuts_18 q492 ?_
      refine r_callSN (tX7_setIn G s 14 q 1000000000 11 (sh14) (by omega)) dX0_tryAllCuts_20 svX7_setIn nw12 rfl ⟨Nat.le_of_ble_eq_true rfl, Nat.le_of_ble_eq_true rfl⟩ (Nat.le_of_ble_eq_true rfl) ⟨Nat.le_of_ble_eq_true rfl, Nat.le_of_ble_eq_true rfl⟩ ?_
      rintro _ _ ⟨rfl, rfl⟩
      refine r_iinc (lv' := [(0, Rf G 10), (1, I (q + 1))]) dX0_tryAllCuts_23 (Nat.le_of_ble_eq_true rfl) rfl rfl ?_
      refine r_goto (tgt := 2) dX0_tryAllCuts_26 (by decide) ?_
      exact ih2 _ (by omega) (q + 1) _ rfl (by omega) (by rw [hS]; exact ov_s hq.1 rfl)
  exact L2 _ 1 _ rfl (by omega) ((ov_0 (by omega)).symm)
