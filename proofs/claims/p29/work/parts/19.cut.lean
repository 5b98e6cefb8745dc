variable {Ω : List Ob}

theorem tX1_seek (G : GT) (σ : Sg) (w : Int) (h : 0 ≤ w ∧ w ≤ 2) (hR : 1 ≤ σ 1 0 ∧ σ 1 0 ≤ 10) (hC : 1 ≤ σ 1 1 ∧ σ 1 1 ≤ 10) (hT : ∀ i, 0 ≤ σ 2 i ∧ σ 2 i ≤ 9999) (hp6 : ∀ x, -1 ≤ σ 6 x ∧ σ 6 x ≤ 9) : Ct G mX1_seek 15 0 0 false (SH Ω) (SH Ω) [Rf G 5, I w] σ (fun rv sv => none = rv ∧ SeekP σ sv w) := by
  have hw : w = 0 ∨ w = 1 ∨ w = 2 := by omega
  rcases hw with rfl | rfl | rfl
  · exact tX1_seek0 G σ hR hC hT hp6
  · exact tX1_seek1 G σ hR hC hT hp6
  · exact tX1_seek2 G σ hR hC hT hp6
def gbk (pl : Int → Int) : Nat → Int
  | 0 => 0
  | k + 1 => gbk pl k + (if pl ((k : Int) + 1) < pl (k : Int) then 1 else 0)
theorem gbk_y {pl : Int → Int} {r : Int} (h : 1 ≤ r) (v : pl r < pl (r - 1)) : gbk pl r.toNat = gbk pl (r - 1).toNat + 1 := by
  obtain ⟨k, rfl⟩ : ∃ k : Nat, r = (k : Int) + 1 := ⟨(r - 1).toNat, by omega⟩
  rw [show ((k : Int) + 1).toNat = k + 1 by omega, show ((k : Int) + 1 - 1).toNat = k by omega]
  rw [show (k : Int) + 1 - 1 = k by omega] at v
  simp only [gbk]; rw [if_pos v]
theorem gbk_n {pl : Int → Int} {r : Int} (h : 1 ≤ r) (v : ¬ pl r < pl (r - 1)) : gbk pl r.toNat = gbk pl (r - 1).toNat := by
  obtain ⟨k, rfl⟩ : ∃ k : Nat, r = (k : Int) + 1 := ⟨(r - 1).toNat, by omega⟩
  rw [show ((k : Int) + 1).toNat = k + 1 by omega, show ((k : Int) + 1 - 1).toNat = k by omega]
  rw [show (k : Int) + 1 - 1 = k by omega] at v
  simp only [gbk]; rw [if_neg v, Int.add_zero]
theorem gbk_c {f g : Int → Int} : ∀ k : Nat, (∀ r : Int, 0 ≤ r → r ≤ k → f r = g r) → gbk f k = gbk g k
  | 0, _ => rfl
  | k + 1, h => by
    simp only [gbk]; rw [gbk_c k (fun r a b => h r a (by omega)), h k (by omega) (by omega), h (k + 1) (by omega) (by omega)]
/-! cutting -/
/-- the weights from a on, ahead of n, together -/
def Sm (w : Int → Int) (a n : Int) : Int := wsum w n.toNat - wsum w a.toNat
/-- the best last cut, some of them tried: the cost, the cut -/
def bsF (prev : Int → Int) (w : Int → Int) (a0 n : Int) : Nat → Int × Int
  | 0 => (1000000000, 0)
  | k + 1 => if prev (a0 + k) + Sm w (a0 + k) n * Sm w (a0 + k) n < (bsF prev w a0 n k).1 then (prev (a0 + k) + Sm w (a0 + k) n * Sm w (a0 + k) n, a0 + k) else bsF prev w a0 n k
def cntA (p n : Int) : Nat := if p = 1 then 1 else (n - p + 1).toNat
def dpC (w : Int → Int) : Nat → Int → Int × Int
  | 0, _ => (0, 0)
  | p + 1, n => bsF (fun a => (dpC w p a).1) w p n (cntA ((p : Int) + 1) n)
theorem bsF_y {prev w : Int → Int} {a0 n a : Int} (h : a0 ≤ a) {c : Int} (hc : c = prev a + Sm w a n * Sm w a n) (v : c < (bsF prev w a0 n (a - a0).toNat).1) : bsF prev w a0 n (a + 1 - a0).toNat = (c, a) := by
  subst hc
  obtain ⟨k, rfl⟩ : ∃ k : Nat, a = a0 + k := ⟨(a - a0).toNat, by omega⟩
  rw [show (a0 + (k : Int) + 1 - a0).toNat = k + 1 by omega]
  rw [show (a0 + (k : Int) - a0).toNat = k by omega] at v
  simp only [bsF]; rw [if_pos v]
theorem bsF_n {prev w : Int → Int} {a0 n a : Int} (h : a0 ≤ a) {c : Int} (hc : c = prev a + Sm w a n * Sm w a n) (v : ¬ c < (bsF prev w a0 n (a - a0).toNat).1) : bsF prev w a0 n (a + 1 - a0).toNat = bsF prev w a0 n (a - a0).toNat := by
  subst hc
  obtain ⟨k, rfl⟩ : ∃ k : Nat, a = a0 + k := ⟨(a - a0).toNat, by omega⟩
  rw [show (a0 + (k : Int) + 1 - a0).toNat = k + 1 by omega, show (a0 + (k : Int) - a0).toNat = k by omega]
  rw [show (a0 + (k : Int) - a0).toNat = k by omega] at v
  simp only [bsF]; rw [if_neg v]
theorem bsF_c {f g w : Int → Int} {a0 n : Int} : ∀ k : Nat, (∀ j : Int, a0 ≤ j → j < a0 + k → f j = g j) → bsF f w a0 n k = bsF g w a0 n k
  | 0, _ => rfl
  | k + 1, h => by
    simp only [bsF]; rw [bsF_c k (fun j a b => h j a (by omega)), h (a0 + k) (by omega) (by omega)]
theorem wsum_bd {w : Int → Int} {n : Nat} (hw : ∀ i : Int, 0 ≤ i → i < n → 1 ≤ w i ∧ w i ≤ 99) : ∀ a b : Nat, a ≤ b → b ≤ n → ((b : Int) - a) ≤ wsum w b - wsum w a ∧ wsum w b - wsum w a ≤ 99 * ((b : Int) - a) := by
  intro a b hab hbn
  induction b with
  | zero => rw [show a = 0 by omega]; omega
  | succ b ih =>
    by_cases e : a = b + 1
    · subst e; omega
    · have := ih (by omega) (by omega)
      have h2 := hw b (by omega) (by omega)
      simp only [wsum]
      omega
theorem Sm_bd {w : Int → Int} {n : Int} (hn : n ≤ 10) (hw : ∀ i : Int, 0 ≤ i → i < n → 1 ≤ w i ∧ w i ≤ 99) {a b : Int} (ha : 0 ≤ a) (hab : a ≤ b) (hb : b ≤ n) : 0 ≤ Sm w a b ∧ Sm w a b ≤ 990 := by
  have := wsum_bd (w := w) (n := n.toNat) (fun i h1 h2 => hw i h1 (by omega)) a.toNat b.toNat (by omega) (by omega)
  unfold Sm
  omega
theorem sq_bd {x : Int} (h : 0 ≤ x ∧ x ≤ 990) : 0 ≤ x * x ∧ x * x ≤ 980100 := by
  have h1 : 0 ≤ x * x := Int.mul_nonneg h.1 h.1
  have h2 : x * x ≤ 990 * 990 := Int.mul_le_mul h.2 h.2 h.1 (by omega)
  omega
theorem bsF_bd {prev w : Int → Int} {a0 n B : Int} (hB : 0 ≤ B ∧ B ≤ 100000000) : ∀ k : Nat, 1 ≤ k → (∀ j : Int, a0 ≤ j → j < a0 + k → (0 ≤ prev j ∧ prev j ≤ B) ∧ 0 ≤ Sm w j n ∧ Sm w j n ≤ 990) → (0 ≤ (bsF prev w a0 n k).1 ∧ (bsF prev w a0 n k).1 ≤ B + 980100) ∧ a0 ≤ (bsF prev w a0 n k).2 ∧ (bsF prev w a0 n k).2 < a0 + k := by
  intro k hk h
  induction k with
  | zero => omega
  | succ k ih =>
    have h1 := h (a0 + k) (by omega) (by omega)
    have h2 := sq_bd h1.2
    simp only [bsF]
    by_cases c : prev (a0 + k) + Sm w (a0 + k) n * Sm w (a0 + k) n < (bsF prev w a0 n k).1
    · rw [if_pos c]; simp only []; omega
    · rw [if_neg c]
      by_cases e : k = 0
      · subst e
        simp only [bsF] at c
        omega
      · have := ih (by omega) (fun j a b => h j a (by omega))
        omega
theorem dpC_bd {w : Int → Int} {n : Int} (hn : n ≤ 10) (hw : ∀ i : Int, 0 ≤ i → i < n → 1 ≤ w i ∧ w i ≤ 99) : ∀ (p : Nat) (m : Int), 1 ≤ p → (p : Int) ≤ m → m ≤ n → (0 ≤ (dpC w p m).1 ∧ (dpC w p m).1 ≤ 980100 * p) ∧ (p : Int) - 1 ≤ (dpC w p m).2 ∧ (dpC w p m).2 < m
  | 0, m, h, _, _ => by omega
  | p + 1, m, _, hpm, hm => by
    by_cases e : p = 0
    · subst e
      have h1 := bsF_bd (prev := fun a => (dpC w 0 a).1) (w := w) (a0 := ((0 : Nat) : Int)) (n := m) (B := 0) (by omega) 1 (by omega) (fun j a b => ⟨by simp only [dpC]; omega, Sm_bd hn hw (by omega) (by omega) hm⟩)
      have h2 : dpC w (0 + 1) m = bsF (fun a => (dpC w 0 a).1) w ((0 : Nat) : Int) m 1 := rfl
      rw [h2]
      omega
    · have h1 := bsF_bd (prev := fun a => (dpC w p a).1) (w := w) (a0 := (p : Int)) (n := m) (B := 980100 * p) (by omega) (m - p).toNat (by omega) (fun j a b => by
        have := dpC_bd hn hw p j (by omega) (by omega) (by omega)
        exact ⟨this.1, Sm_bd hn hw (by omega) (by omega) hm⟩)
      have h2 : dpC w (p + 1) m = bsF (fun a => (dpC w p a).1) w (p : Int) m (m - p).toNat := by
        show bsF _ w (p : Int) m (cntA ((p : Int) + 1) m) = _
        unfold cntA
        rw [if_neg (by omega), show m - ((p : Int) + 1) + 1 = m - p by omega]
      rw [h2]
      omega

set_option maxHeartbeats 1000000 in
set_option maxRecDepth 100000 in
theorem tX1_placesGoneBack (G : GT) (σ : Sg)  (hR : 1 ≤ σ 1 0 ∧ σ 1 0 ≤ 10) (hp6 : ∀ x, -1 ≤ σ 6 x ∧ σ 6 x ≤ 9) : Ct G mX1_placesGoneBack 3 0 0 false (SH Ω) (SH Ω) [Rf G 5] σ (fun rv sv => some (I (gbk (fun r => σ 6 (10 * 0 + r)) (σ 1 0 - 1).toNat)) = rv ∧ σ = sv) := by
  obtain ⟨P, hP⟩ : ∃ P : Option Value → Sg → Prop, P = (fun rv sv => some (I (gbk (fun r => σ 6 (10 * 0 + r)) (σ 1 0 - 1).toNat)) = rv ∧ σ = sv) := ⟨_, rfl⟩
  rw [← hP]
  refine ct_of (lv := [(0, Rf G 5)]) (by decide +kernel) (Nat.le_of_ble_eq_true rfl) rfl ?_
  refine r_iconst dX1_placesGoneBack_0 ?_
  refine r_istore_n (lv' := [(0, Rf G 5), (1, I 0)]) dX1_placesGoneBack_1 rfl (Nat.le_of_ble_eq_true rfl) rfl ?_
  refine r_iconst dX1_placesGoneBack_2 ?_
  refine r_istore_n (lv' := [(0, Rf G 5), (1, I 0), (2, I 1)]) dX1_placesGoneBack_3 rfl (Nat.le_of_ble_eq_true rfl) rfl ?_
  have L4 : ∀ (mm : Nat) (t r : Int), (σ 1 0 - r).toNat = mm → (hr : 1 ≤ r ∧ r ≤ σ 1 0) → (ht : t = gbk (fun r => σ 6 (10 * 0 + r)) (r - 1).toNat) → Rn G mX1_placesGoneBack (rmD 3 0 0) E0 (Zn G false (SH Ω) P 0 0) false (SH Ω) 0 0 4 [(0, Rf G 5), (1, I t), (2, I r)] [] σ := by
    intro mm
    induction mm using Nat.strongRecOn with
    | _ mm ih4 =>
    intro t r hm4 hr ht
    refine r_iload_n dX1_placesGoneBack_4 rfl rfl ?_
    refine r_aload_n dX1_placesGoneBack_5 rfl rfl ?_
    refine r_getR (b := 1) dX1_placesGoneBack_6 sh5 rfl (ci := 1) (j := 0) rfl (Nat.le_of_ble_eq_true rfl) ixX1 q74 rfl ?_
    refine r_getI (z := 0) dX1_placesGoneBack_9 sh1 rfl (ci := 5) (j := 0) rfl (Nat.le_of_ble_eq_true rfl) rfl ixX5 q34 rfl (hv := rfl) ?_
    refine r_icmp_ge (tgt := 41) dX1_placesGoneBack_12 (by decide) (by omega) (fun hb1 => ?_) (fun hb1 => ?_)
    · skip
      refine r_iload_n dX1_placesGoneBack_41 rfl rfl ?_
      exact r_iret dX1_placesGoneBack_42 rfl (by rw [hP]; exact ⟨by rw [ht, show r = σ 1 0 by omega], rfl⟩)
    · skip
      refine r_aload_n dX1_placesGoneBack_15 rfl rfl ?_
      refine r_iconst dX1_placesGoneBack_16 ?_
      refine r_iload_n dX1_placesGoneBack_17 rfl rfl ?_
      refine r_callV (tX1_placeBy G σ 0 r (by omega)) dX1_placesGoneBack_18 svX1_placeBy q305 sh5 (ci := 1) rfl rfl rfl ⟨Nat.le_of_ble_eq_true rfl, Nat.le_of_ble_eq_true rfl⟩ (Nat.le_of_ble_eq_true rfl) ⟨Nat.le_of_ble_eq_true rfl, Nat.le_of_ble_eq_true rfl⟩ ?_
      rintro _ _ ⟨rfl, rfl⟩
      have b1 := hp6 (10 * 0 + r)
      refine r_aload_n dX1_placesGoneBack_21 rfl rfl ?_
      refine r_iconst dX1_placesGoneBack_22 ?_
      refine r_iload_n dX1_placesGoneBack_23 rfl rfl ?_
      refine r_iconst dX1_placesGoneBack_24 ?_
      refine r_isub dX1_placesGoneBack_25 ?_
      refine r_callV (tX1_placeBy G σ 0 (r - 1) (by omega)) dX1_placesGoneBack_26 svX1_placeBy q305 sh5 (ci := 1) rfl rfl rfl ⟨Nat.le_of_ble_eq_true rfl, Nat.le_of_ble_eq_true rfl⟩ (Nat.le_of_ble_eq_true rfl) ⟨Nat.le_of_ble_eq_true rfl, Nat.le_of_ble_eq_true rfl⟩ ?_
      rintro _ _ ⟨rfl, rfl⟩
      have b2 := hp6 (10 * 0 + (r - 1))
      refine r_icmp_ge (tgt := 35) dX1_placesGoneBack_29 (by decide) (by omega) (fun hb2 => ?_) (fun hb2 => ?_)
      · skip
        refine r_iinc (lv' := [(0, Rf G 5), (1, I t), (2, I (r + 1))]) dX1_placesGoneBack_35 (Nat.le_of_ble_eq_true rfl) rfl rfl ?_
        refine r_goto (tgt := 4) dX1_placesGoneBack_38 (by decide) ?_
        exact ih4 _ (by omega) _ (r + 1) rfl (by omega) (by rw [show r + 1 - 1 = r by omega, ht]; first | exact (gbk_y (pl := fun r => σ 6 (10 * 0 + r)) hr.1 (by show σ 6 (10 * 0 + r) < σ 6 (10 * 0 + (r - 1)); omega)).symm | exact (gbk_n (pl := fun r => σ 6 (10 * 0 + r)) hr.1 (by show ¬ σ 6 (10 * 0 + r) < σ 6 (10 * 0 + (r - 1)); omega)).symm)
      · skip
        refine r_iinc (lv' := [(0, Rf G 5), (1, I (t + 1)), (2, I r)]) dX1_placesGoneBack_32 (Nat.le_of_ble_eq_true rfl) rfl rfl ?_
        refine r_iinc (lv' := [(0, Rf G 5), (1, I (t + 1)), (2, I (r + 1))]) dX1_placesGoneBack_35 (Nat.le_of_ble_eq_true rfl) rfl rfl ?_
        refine r_goto (tgt := 4) dX1_placesGoneBack_38 (by decide) ?_
        exact ih4 _ (by omega) _ (r + 1) rfl (by omega) (by rw [show r + 1 - 1 = r by omega, ht]; first | exact (gbk_y (pl := fun r => σ 6 (10 * 0 + r)) hr.1 (by show σ 6 (10 * 0 + r) < σ 6 (10 * 0 + (r - 1)); omega)).symm | exact (gbk_n (pl := fun r => σ 6 (10 * 0 + r)) hr.1 (by show ¬ σ 6 (10 * 0 + r) < σ 6 (10 * 0 + (r - 1)); omega)).symm)
  exact L4 _ 0 1 rfl (by omega) (rfl)
set_option maxHeartbeats 1000000 in
set_option maxRecDepth 100000 in
theorem tX0_plannedCost (G : GT) (σ : Sg) (p : Int) (h : 0 ≤ p ∧ p ≤ σ 1 2 ∧ 1 ≤ σ 1 2 ∧ σ 1 2 ≤ 10) : Ct G mX0_plannedCost 2 0 0 false (SH Ω) (SH Ω) [Rf G 10, I p] σ (fun rv sv => some (I (σ 11 (11 * p + σ 1 2))) = rv ∧ σ = sv) := by
  obtain ⟨P, hP⟩ : ∃ P : Option Value → Sg → Prop, P = (fun rv sv => some (I (σ 11 (11 * p + σ 1 2))) = rv ∧ σ = sv) := ⟨_, rfl⟩
  rw [← hP]
  refine ct_of (lv := [(0, Rf G 10), (1, I p)]) (by decide +kernel) (Nat.le_of_ble_eq_true rfl) rfl ?_
  refine r_aload_n dX0_plannedCost_0 rfl rfl ?_
  refine r_getR (b := 11) dX0_plannedCost_1 sh10 rfl (ci := 0) (j := 1) rfl (Nat.le_of_ble_eq_true rfl) ixX0 q88 rfl ?_
  refine r_iload_n dX0_plannedCost_4 rfl rfl ?_
  refine r_bipush dX0_plannedCost_5 rfl ?_
  refine r_imul dX0_plannedCost_7 ?_
  refine r_aload_n dX0_plannedCost_8 rfl rfl ?_
  refine r_getR (b := 1) dX0_plannedCost_9 sh10 rfl (ci := 0) (j := 0) rfl (Nat.le_of_ble_eq_true rfl) ixX0 q87 rfl ?_
  refine r_getI (z := 2) dX0_plannedCost_12 sh1 rfl (ci := 5) (j := 2) rfl (Nat.le_of_ble_eq_true rfl) rfl ixX5 q42 rfl (hv := rfl) ?_
  refine r_iadd dX0_plannedCost_15 ?_
  refine r_callSN (tX7_numberIn G σ 11 ((p * 11) + (σ 1 2)) 121 (sh11) (by omega)) dX0_plannedCost_16 svX7_numberIn nw13 rfl ⟨Nat.le_of_ble_eq_true rfl, Nat.le_of_ble_eq_true rfl⟩ (Nat.le_of_ble_eq_true rfl) ⟨Nat.le_of_ble_eq_true rfl, Nat.le_of_ble_eq_true rfl⟩ ?_
  rintro _ _ ⟨rfl, rfl⟩
  exact r_iret dX0_plannedCost_19 rfl (by rw [hP]; exact ⟨by rw [show p * 11 + σ 1 2 = 11 * p + σ 1 2 by omega], rfl⟩)
set_option maxHeartbeats 1000000 in
set_option maxRecDepth 100000 in
theorem tX0_triedCost (G : GT) (σ : Sg) (p : Int) (h : 0 ≤ p ∧ p ≤ 10) : Ct G mX0_triedCost 2 0 0 false (SH Ω) (SH Ω) [Rf G 10, I p] σ (fun rv sv => some (I (σ 14 p)) = rv ∧ σ = sv) := by
  obtain ⟨P, hP⟩ : ∃ P : Option Value → Sg → Prop, P = (fun rv sv => some (I (σ 14 p)) = rv ∧ σ = sv) := ⟨_, rfl⟩
  rw [← hP]
  refine ct_of (lv := [(0, Rf G 10), (1, I p)]) (by decide +kernel) (Nat.le_of_ble_eq_true rfl) rfl ?_
  refine r_aload_n dX0_triedCost_0 rfl rfl ?_
  refine r_getR (b := 14) dX0_triedCost_1 sh10 rfl (ci := 0) (j := 4) rfl (Nat.le_of_ble_eq_true rfl) ixX0 q91 rfl ?_
  refine r_iload_n dX0_triedCost_4 rfl rfl ?_
  refine r_callSN (tX7_numberIn G σ 14 p 11 (sh14) (by omega)) dX0_triedCost_5 svX7_numberIn nw13 rfl ⟨Nat.le_of_ble_eq_true rfl, Nat.le_of_ble_eq_true rfl⟩ (Nat.le_of_ble_eq_true rfl) ⟨Nat.le_of_ble_eq_true rfl, Nat.le_of_ble_eq_true rfl⟩ ?_
  rintro _ _ ⟨rfl, rfl⟩
  exact r_iret dX0_triedCost_8 rfl (by rw [hP]; exact ⟨rfl, rfl⟩)
set_option maxHeartbeats 1000000 in
set_option maxRecDepth 100000 in
theorem tX0_planLastCut (G : GT) (σ : Sg) (p m : Int) (h : 1 ≤ p ∧ p ≤ m ∧ m ≤ 10) (hf : ∀ j, 0 ≤ j → j ≤ m → σ 13 j = wsum (σ 3) j.toNat) (hl : ∀ a, p - 1 ≤ a → a < m → 0 ≤ σ 11 (11 * (p - 1) + a) ∧ σ 11 (11 * (p - 1) + a) ≤ 100000000) (hs : ∀ a, 0 ≤ a → a ≤ m → 0 ≤ Sm (σ 3) a m ∧ Sm (σ 3) a m ≤ 990) : Ct G mX0_planLastCut 2 0 0 false (SH Ω) (SH Ω) [Rf G 10, I p, I m] σ (fun rv sv => none = rv ∧ up (up σ 11 (11 * p + m) (bsF (fun a => σ 11 (11 * (p - 1) + a)) (σ 3) (p - 1) m (cntA p m)).1) 12 (11 * p + m) (bsF (fun a => σ 11 (11 * (p - 1) + a)) (σ 3) (p - 1) m (cntA p m)).2 = sv) := by
  obtain ⟨P, hP⟩ : ∃ P : Option Value → Sg → Prop, P = (fun rv sv => none = rv ∧ up (up σ 11 (11 * p + m) (bsF (fun a => σ 11 (11 * (p - 1) + a)) (σ 3) (p - 1) m (cntA p m)).1) 12 (11 * p + m) (bsF (fun a => σ 11 (11 * (p - 1) + a)) (σ 3) (p - 1) m (cntA p m)).2 = sv) := ⟨_, rfl⟩
  rw [← hP]
  refine ct_of (lv := [(0, Rf G 10), (1, I p), (2, I m)]) (by decide +kernel) (Nat.le_of_ble_eq_true rfl) rfl ?_
  refine r_ldc (z := 1000000000) dX0_planLastCut_0 q492 ?_
  refine r_istore_n (lv' := [(0, Rf G 10), (1, I p), (2, I m), (3, I 1000000000)]) dX0_planLastCut_2 rfl (Nat.le_of_ble_eq_true rfl) rfl ?_
  refine r_iconst dX0_planLastCut_3 ?_
  refine r_istore (lv' := [(0, Rf G 10), (1, I p), (2, I m), (3, I 1000000000), (4, I 0)]) dX0_planLastCut_4 (Nat.le_of_ble_eq_true rfl) rfl ?_
  refine r_iload_n dX0_planLastCut_6 rfl rfl ?_
  refine r_iconst dX0_planLastCut_7 ?_
  refine r_icmp_ne (tgt := 15) dX0_planLastCut_8 (by decide) (by omega) (fun hb1 => ?_) (fun hb1 => ?_)
  · skip
    refine r_iload_n dX0_planLastCut_15 rfl rfl ?_
    refine r_iconst dX0_planLastCut_16 ?_
    refine r_isub dX0_planLastCut_17 ?_
    refine r_istore (lv' := [(0, Rf G 10), (1, I p), (2, I m), (3, I 1000000000), (4, I 0), (5, I (m - 1))]) dX0_planLastCut_18 (Nat.le_of_ble_eq_true rfl) rfl ?_
    refine r_iload_n dX0_planLastCut_20 rfl rfl ?_
    refine r_iconst dX0_planLastCut_21 ?_
    refine r_isub dX0_planLastCut_22 ?_
    refine r_istore (lv' := [(0, Rf G 10), (1, I p), (2, I m), (3, I 1000000000), (4, I 0), (5, I (m - 1)), (6, I (p - 1))]) dX0_planLastCut_23 (Nat.le_of_ble_eq_true rfl) rfl ?_
    have L25 : ∀ (mm : Nat) (b bc a mo : Int), (mo + 1 - a).toNat = mm → (hmo : (p = 1 ∧ mo = 0) ∨ (¬ p = 1 ∧ mo = m - 1)) → (ha : p - 1 ≤ a ∧ a ≤ mo + 1) → (hb : (b, bc) = bsF (fun a => σ 11 (11 * (p - 1) + a)) (σ 3) (p - 1) m (a - (p - 1)).toNat) → (hbb : 0 ≤ b ∧ b ≤ 1000000000) → Rn G mX0_planLastCut (rmD 2 0 0) E0 (Zn G false (SH Ω) P 0 0) false (SH Ω) 0 0 25 [(0, Rf G 10), (1, I p), (2, I m), (3, I b), (4, I bc), (5, I mo), (6, I a)] [] σ := by
      intro mm
      induction mm using Nat.strongRecOn with
      | _ mm ih25 =>
      intro b bc a mo hm25 hmo ha hb hbb
      refine r_iload dX0_planLastCut_25 rfl ?_
      refine r_iload dX0_planLastCut_27 rfl ?_
      refine r_icmp_gt (tgt := 95) dX0_planLastCut_29 (by decide) (by omega) (fun hb2 => ?_) (fun hb2 => ?_)
      · skip
        refine r_aload_n dX0_planLastCut_95 rfl rfl ?_
        refine r_getR (b := 11) dX0_planLastCut_96 sh10 rfl (ci := 0) (j := 1) rfl (Nat.le_of_ble_eq_true rfl) ixX0 q88 rfl ?_
        refine r_iload_n dX0_planLastCut_99 rfl rfl ?_
        refine r_bipush dX0_planLastCut_100 rfl ?_
        refine r_imul dX0_planLastCut_102 ?_
        refine r_iload_n dX0_planLastCut_103 rfl rfl ?_
        refine r_iadd dX0_planLastCut_104 ?_
        refine r_iload_n dX0_planLastCut_105 rfl rfl ?_
        refine r_callSN (tX7_setIn G σ 11 ((p * 11) + m) b 121 (sh11) (by omega)) dX0_planLastCut_106 svX7_setIn nw12 rfl ⟨Nat.le_of_ble_eq_true rfl, Nat.le_of_ble_eq_true rfl⟩ (Nat.le_of_ble_eq_true rfl) ⟨Nat.le_of_ble_eq_true rfl, Nat.le_of_ble_eq_true rfl⟩ ?_
        rintro _ _ ⟨rfl, rfl⟩
        refine r_aload_n dX0_planLastCut_109 rfl rfl ?_
        refine r_getR (b := 12) dX0_planLastCut_110 sh10 rfl (ci := 0) (j := 2) rfl (Nat.le_of_ble_eq_true rfl) ixX0 q89 rfl ?_
        refine r_iload_n dX0_planLastCut_113 rfl rfl ?_
        refine r_bipush dX0_planLastCut_114 rfl ?_
        refine r_imul dX0_planLastCut_116 ?_
        refine r_iload_n dX0_planLastCut_117 rfl rfl ?_
        refine r_iadd dX0_planLastCut_118 ?_
        refine r_iload dX0_planLastCut_119 rfl ?_
        refine r_callSN (tX7_setIn G (up σ 11 ((p * 11) + m) b) 12 ((p * 11) + m) bc 121 (sh12) (by omega)) dX0_planLastCut_121 svX7_setIn nw12 rfl ⟨Nat.le_of_ble_eq_true rfl, Nat.le_of_ble_eq_true rfl⟩ (Nat.le_of_ble_eq_true rfl) ⟨Nat.le_of_ble_eq_true rfl, Nat.le_of_ble_eq_true rfl⟩ ?_
        rintro _ _ ⟨rfl, rfl⟩
        exact r_vret dX0_planLastCut_124 rfl (by rw [hP]; exact ⟨rfl, by rw [show p * 11 + m = 11 * p + m by omega, show cntA p m = (a - (p - 1)).toNat by unfold cntA; rcases hmo with ⟨z1, z2⟩ | ⟨z1, z2⟩; (rw [if_pos z1]; omega); (rw [if_neg z1]; omega), ← hb]⟩)
      · skip
        have hA : a < m := by omega
        have hl9 := hl a ha.1 hA
        have hs9 := hs a (by omega) (by omega)
        have hq9 := sq_bd hs9
        refine r_aload_n dX0_planLastCut_32 rfl rfl ?_
        refine r_getR (b := 13) dX0_planLastCut_33 sh10 rfl (ci := 0) (j := 3) rfl (Nat.le_of_ble_eq_true rfl) ixX0 q90 rfl ?_
        refine r_iload_n dX0_planLastCut_36 rfl rfl ?_
        refine r_callSN (tX7_numberIn G σ 13 m 11 (sh13) (by omega)) dX0_planLastCut_37 svX7_numberIn nw13 rfl ⟨Nat.le_of_ble_eq_true rfl, Nat.le_of_ble_eq_true rfl⟩ (Nat.le_of_ble_eq_true rfl) ⟨Nat.le_of_ble_eq_true rfl, Nat.le_of_ble_eq_true rfl⟩ ?_
        rintro _ _ ⟨rfl, rfl⟩
        refine r_aload_n dX0_planLastCut_40 rfl rfl ?_
        refine r_getR (b := 13) dX0_planLastCut_41 sh10 rfl (ci := 0) (j := 3) rfl (Nat.le_of_ble_eq_true rfl) ixX0 q90 rfl ?_
        refine r_iload dX0_planLastCut_44 rfl ?_
        refine r_callSN (tX7_numberIn G σ 13 a 11 (sh13) (by omega)) dX0_planLastCut_46 svX7_numberIn nw13 rfl ⟨Nat.le_of_ble_eq_true rfl, Nat.le_of_ble_eq_true rfl⟩ (Nat.le_of_ble_eq_true rfl) ⟨Nat.le_of_ble_eq_true rfl, Nat.le_of_ble_eq_true rfl⟩ ?_
        rintro _ _ ⟨rfl, rfl⟩
        refine r_isub dX0_planLastCut_49 ?_
        refine r_istore (lv' := [(0, Rf G 10), (1, I p), (2, I m), (3, I b), (4, I bc), (5, I mo), (6, I a), (7, I ((σ 13 m) - (σ 13 a)))]) dX0_planLastCut_50 (Nat.le_of_ble_eq_true rfl) rfl ?_
        refine r_aload_n dX0_planLastCut_52 rfl rfl ?_
        refine r_getR (b := 11) dX0_planLastCut_53 sh10 rfl (ci := 0) (j := 1) rfl (Nat.le_of_ble_eq_true rfl) ixX0 q88 rfl ?_
        refine r_iload_n dX0_planLastCut_56 rfl rfl ?_
        refine r_iconst dX0_planLastCut_57 ?_
        refine r_isub dX0_planLastCut_58 ?_
        refine r_bipush dX0_planLastCut_59 rfl ?_
        refine r_imul dX0_planLastCut_61 ?_
        refine r_iload dX0_planLastCut_62 rfl ?_
        refine r_iadd dX0_planLastCut_64 ?_
        refine r_callSN (tX7_numberIn G σ 11 (((p - 1) * 11) + a) 121 (sh11) (by omega)) dX0_planLastCut_65 svX7_numberIn nw13 rfl ⟨Nat.le_of_ble_eq_true rfl, Nat.le_of_ble_eq_true rfl⟩ (Nat.le_of_ble_eq_true rfl) ⟨Nat.le_of_ble_eq_true rfl, Nat.le_of_ble_eq_true rfl⟩ ?_
        rintro _ _ ⟨rfl, rfl⟩
        refine r_iload dX0_planLastCut_68 rfl ?_
        refine r_iload dX0_planLastCut_70 rfl ?_
        refine r_imul dX0_planLastCut_72 ?_
        refine r_iadd dX0_planLastCut_73 ?_
        refine r_istore (lv' := [(0, Rf G 10), (1, I p), (2, I m), (3, I b), (4, I bc), (5, I mo), (6, I a), (7, I ((σ 13 m) - (σ 13 a))), (8, I ((σ 11 (((p - 1) * 11) + a)) + (((σ 13 m) - (σ 13 a)) * ((σ 13 m) - (σ 13 a)))))]) dX0_planLastCut_74 (Nat.le_of_ble_eq_true rfl) rfl ?_
        obtain ⟨cc, hc0⟩ : ∃ z, z = (σ 11 (((p - 1) * 11) + a)) + (((σ 13 m) - (σ 13 a)) * ((σ 13 m) - (σ 13 a))) := ⟨_, rfl⟩
        rw [← hc0]
        have e9 : σ 13 m - σ 13 a = Sm (σ 3) a m := by rw [hf m (by omega) (by omega), hf a (by omega) (by omega)]; rfl
        have hcc : cc = (fun a => σ 11 (11 * (p - 1) + a)) a + Sm (σ 3) a m * Sm (σ 3) a m := by rw [hc0, e9, show (p - 1) * 11 + a = 11 * (p - 1) + a by omega]
        have hcb : 0 ≤ cc ∧ cc ≤ 200000000 := by rw [hcc]; show 0 ≤ σ 11 (11 * (p - 1) + a) + _ ∧ σ 11 (11 * (p - 1) + a) + _ ≤ _; omega
        refine r_iload dX0_planLastCut_76 rfl ?_
        refine r_iload_n dX0_planLastCut_78 rfl rfl ?_
        refine r_icmp_ge (tgt := 89) dX0_planLastCut_79 (by decide) (by omega) (fun hb3 => ?_) (fun hb3 => ?_)
        · skip
          refine r_iinc (lv' := [(0, Rf G 10), (1, I p), (2, I m), (3, I b), (4, I bc), (5, I mo), (6, I (a + 1)), (7, I ((σ 13 m) - (σ 13 a))), (8, I cc)]) dX0_planLastCut_89 (Nat.le_of_ble_eq_true rfl) rfl rfl ?_
          refine r_goto (tgt := 25) dX0_planLastCut_92 (by decide) ?_
          refine r_sub [0, 1, 2, 3, 4, 5, 6] rfl ?_
          exact ih25 _ (by omega) _ _ (a + 1) _ rfl (hmo) (by omega) (by first | exact (bsF_y ha.1 hcc (by rw [← hb]; show cc < b; omega)).symm | (rw [bsF_n ha.1 hcc (by rw [← hb]; show ¬ cc < b; omega)]; exact hb)) (by omega)
        · skip
          refine r_iload dX0_planLastCut_82 rfl ?_
          refine r_istore_n (lv' := [(0, Rf G 10), (1, I p), (2, I m), (3, I cc), (4, I bc), (5, I mo), (6, I a), (7, I ((σ 13 m) - (σ 13 a))), (8, I cc)]) dX0_planLastCut_84 rfl (Nat.le_of_ble_eq_true rfl) rfl ?_
          refine r_iload dX0_planLastCut_85 rfl ?_
          refine r_istore (lv' := [(0, Rf G 10), (1, I p), (2, I m), (3, I cc), (4, I a), (5, I mo), (6, I a), (7, I ((σ 13 m) - (σ 13 a))), (8, I cc)]) dX0_planLastCut_87 (Nat.le_of_ble_eq_true rfl) rfl ?_
          refine r_iinc (lv' := [(0, Rf G 10), (1, I p), (2, I m), (3, I cc), (4, I a), (5, I mo), (6, I (a + 1)), (7, I ((σ 13 m) - (σ 13 a))), (8, I cc)]) dX0_planLastCut_89 (Nat.le_of_ble_eq_true rfl) rfl rfl ?_
          refine r_goto (tgt := 25) dX0_planLastCut_92 (by decide) ?_
          refine r_sub [0, 1, 2, 3, 4, 5, 6] rfl ?_
          exact ih25 _ (by omega) _ _ (a + 1) _ rfl (hmo) (by omega) (by first | exact (bsF_y ha.1 hcc (by rw [← hb]; show cc < b; omega)).symm | (rw [bsF_n ha.1 hcc (by rw [← hb]; show ¬ cc < b; omega)]; exact hb)) (by omega)
    exact L25 _ _ _ _ _ rfl (by omega) (by omega) (by rw [show (p - 1 - (p - 1)).toNat = 0 by omega]; rfl) (by omega)
  · skip
    refine r_iconst dX0_planLastCut_11 ?_
    refine r_goto (tgt := 18) dX0_planLastCut_12 (by decide) ?_
    refine r_istore (lv' := [(0, Rf G 10), (1, I p), (2, I m), (3, I 1000000000), (4, I 0), (5, I 0)]) dX0_planLastCut_18 (Nat.le_of_ble_eq_true rfl) rfl ?_
    refine r_iload_n dX0_planLastCut_20 rfl rfl ?_
    refine r_iconst dX0_planLastCut_21 ?_
    refine r_isub dX0_planLastCut_22 ?_
    refine r_istore (lv' := [(0, Rf G 10), (1, I p), (2, I m), (3, I 1000000000), (4, I 0), (5, I 0), (6, I (p - 1))]) dX0_planLastCut_23 (Nat.le_of_ble_eq_true rfl) rfl ?_
    have L25 : ∀ (mm : Nat) (b bc a mo : Int), (mo + 1 - a).toNat = mm → (hmo : (p = 1 ∧ mo = 0) ∨ (¬ p = 1 ∧ mo = m - 1)) → (ha : p - 1 ≤ a ∧ a ≤ mo + 1) → (hb : (b, bc) = bsF (fun a => σ 11 (11 * (p - 1) + a)) (σ 3) (p - 1) m (a - (p - 1)).toNat) → (hbb : 0 ≤ b ∧ b ≤ 1000000000) → Rn G mX0_planLastCut (rmD 2 0 0) E0 (Zn G false (SH Ω) P 0 0) false (SH Ω) 0 0 25 [(0, Rf G 10), (1, I p), (2, I m), (3, I b), (4, I bc), (5, I mo), (6, I a)] [] σ := by
      intro mm
      induction mm using Nat.strongRecOn with
      | _ mm ih25 =>
      intro b bc a mo hm25 hmo ha hb hbb
      refine r_iload dX0_planLastCut_25 rfl ?_
      refine r_iload dX0_planLastCut_27 rfl ?_
      refine r_icmp_gt (tgt := 95) dX0_planLastCut_29 (by decide) (by omega) (fun hb4 => ?_) (fun hb4 => ?_)
      · skip
        refine r_aload_n dX0_planLastCut_95 rfl rfl ?_
        refine r_getR (b := 11) dX0_planLastCut_96 sh10 rfl (ci := 0) (j := 1) rfl (Nat.le_of_ble_eq_true rfl) ixX0 q88 rfl ?_
        refine r_iload_n dX0_planLastCut_99 rfl rfl ?_
        refine r_bipush dX0_planLastCut_100 rfl ?_
        refine r_imul dX0_planLastCut_102 ?_
        refine r_iload_n dX0_planLastCut_103 rfl rfl ?_
        refine r_iadd dX0_planLastCut_104 ?_
        refine r_iload_n dX0_planLastCut_105 rfl rfl ?_
        refine r_callSN (tX7_setIn G σ 11 ((p * 11) + m) b 121 (sh11) (by omega)) dX0_planLastCut_106 svX7_setIn nw12 rfl ⟨Nat.le_of_ble_eq_true rfl, Nat.le_of_ble_eq_true rfl⟩ (Nat.le_of_ble_eq_true rfl) ⟨Nat.le_of_ble_eq_true rfl, Nat.le_of_ble_eq_true rfl⟩ ?_
        rintro _ _ ⟨rfl, rfl⟩
        refine r_aload_n dX0_planLastCut_109 rfl rfl ?_
        refine r_getR (b := 12) dX0_planLastCut_110 sh10 rfl (ci := 0) (j := 2) rfl (Nat.le_of_ble_eq_true rfl) ixX0 q89 rfl ?_
        refine r_iload_n dX0_planLastCut_113 rfl rfl ?_
        refine r_bipush dX0_planLastCut_114 rfl ?_
        refine r_imul dX0_planLastCut_116 ?_
        refine r_iload_n dX0_planLastCut_117 rfl rfl ?_
        refine r_iadd dX0_planLastCut_118 ?_
        refine r_iload dX0_planLastCut_119 rfl ?_
        refine r_callSN (tX7_setIn G (up σ 11 ((p * 11) + m) b) 12 ((p * 11) + m) bc 121 (sh12) (by omega)) dX0_planLastCut_121 svX7_setIn nw12 rfl ⟨Nat.le_of_ble_eq_true rfl, Nat.le_of_ble_eq_true rfl⟩ (Nat.le_of_ble_eq_true rfl) ⟨Nat.le_of_ble_eq_true rfl, Nat.le_of_ble_eq_true rfl⟩ ?_
        rintro _ _ ⟨rfl, rfl⟩
        exact r_vret dX0_planLastCut_124 rfl (by rw [hP]; exact ⟨rfl, by rw [show p * 11 + m = 11 * p + m by omega, show cntA p m = (a - (p - 1)).toNat by unfold cntA; rcases hmo with ⟨z1, z2⟩ | ⟨z1, z2⟩; (rw [if_pos z1]; omega); (rw [if_neg z1]; omega), ← hb]⟩)
      · skip
        have hA : a < m := by omega
        have hl9 := hl a ha.1 hA
        have hs9 := hs a (by omega) (by omega)
        have hq9 := sq_bd hs9
        refine r_aload_n dX0_planLastCut_32 rfl rfl ?_
        refine r_getR (b := 13) dX0_planLastCut_33 sh10 rfl (ci := 0) (j := 3) rfl (Nat.le_of_ble_eq_true rfl) ixX0 q90 rfl ?_
        refine r_iload_n dX0_planLastCut_36 rfl rfl ?_
        refine r_callSN (tX7_numberIn G σ 13 m 11 (sh13) (by omega)) dX0_planLastCut_37 svX7_numberIn nw13 rfl ⟨Nat.le_of_ble_eq_true rfl, Nat.le_of_ble_eq_true rfl⟩ (Nat.le_of_ble_eq_true rfl) ⟨Nat.le_of_ble_eq_true rfl, Nat.le_of_ble_eq_true rfl⟩ ?_
        rintro _ _ ⟨rfl, rfl⟩
        refine r_aload_n dX0_planLastCut_40 rfl rfl ?_
        refine r_getR (b := 13) dX0_planLastCut_41 sh10 rfl (ci := 0) (j := 3) rfl (Nat.le_of_ble_eq_true rfl) ixX0 q90 rfl ?_
        refine r_iload dX0_planLastCut_44 rfl ?_
        refine r_callSN (tX7_numberIn G σ 13 a 11 (sh13) (by omega)) dX0_planLastCut_46 svX7_numberIn nw13 rfl ⟨Nat.le_of_ble_eq_true rfl, Nat.le_of_ble_eq_true rfl⟩ (Nat.le_of_ble_eq_true rfl) ⟨Nat.le_of_ble_eq_true rfl, Nat.le_of_ble_eq_true rfl⟩ ?_
        rintro _ _ ⟨rfl, rfl⟩
        refine r_isub dX0_planLastCut_49 ?_
        refine r_istore (lv' := [(0, Rf G 10), (1, I p), (2, I m), (3, I b), (4, I bc), (5, I mo), (6, I a), (7, I ((σ 13 m) - (σ 13 a)))]) dX0_planLastCut_50 (Nat.le_of_ble_eq_true rfl) rfl ?_
        refine r_aload_n dX0_planLastCut_52 rfl rfl ?_
        refine r_getR (b := 11) dX0_planLastCut_53 sh10 rfl (ci := 0) (j := 1) rfl (Nat.le_of_ble_eq_true rfl) ixX0 q88 rfl ?_
        refine r_iload_n dX0_planLastCut_56 rfl rfl ?_
        refine r_iconst dX0_planLastCut_57 ?_
        refine r_isub dX0_planLastCut_58 ?_
        refine r_bipush dX0_planLastCut_59 rfl ?_
        refine r_imul dX0_planLastCut_61 ?_
        refine r_iload dX0_planLastCut_62 rfl ?_
        refine r_iadd dX0_planLastCut_64 ?_
        refine r_callSN (tX7_numberIn G σ 11 (((p - 1) * 11) + a) 121 (sh11) (by omega)) dX0_planLastCut_65 svX7_numberIn nw13 rfl ⟨Nat.le_of_ble_eq_true rfl, Nat.le_of_ble_eq_true rfl⟩ (Nat.le_of_ble_eq_true rfl) ⟨Nat.le_of_ble_eq_true rfl, Nat.le_of_ble_eq_true rfl⟩ ?_
        rintro _ _ ⟨rfl, rfl⟩
        refine r_iload dX0_planLastCut_68 rfl ?_
        refine r_iload dX0_planLastCut_70 rfl ?_
        refine r_imul dX0_planLastCut_72 ?_
        refine r_iadd dX0_planLastCut_73 ?_
        refine r_istore (lv' := [(0, Rf G 10), (1, I p), (2, I m), (3, I b), (4, I bc), (5, I mo), (6, I a), (7, I ((σ 13 m) - (σ 13 a))), (8, I ((σ 11 (((p - 1) * 11) + a)) + (((σ 13 m) - (σ 13 a)) * ((σ 13 m) - (σ 13 a)))))]) dX0_planLastCut_74 (Nat.le_of_ble_eq_true rfl) rfl ?_
        obtain ⟨cc, hc0⟩ : ∃ z, z = (σ 11 (((p - 1) * 11) + a)) + (((σ 13 m) - (σ 13 a)) * ((σ 13 m) - (σ 13 a))) := ⟨_, rfl⟩
        rw [← hc0]
        have e9 : σ 13 m - σ 13 a = Sm (σ 3) a m := by rw [hf m (by omega) (by omega), hf a (by omega) (by omega)]; rfl
        have hcc : cc = (fun a => σ 11 (11 * (p - 1) + a)) a + Sm (σ 3) a m * Sm (σ 3) a m := by rw [hc0, e9, show (p - 1) * 11 + a = 11 * (p - 1) + a by omega]
        have hcb : 0 ≤ cc ∧ cc ≤ 200000000 := by rw [hcc]; show 0 ≤ σ 11 (11 * (p - 1) + a) + _ ∧ σ 11 (11 * (p - 1) + a) + _ ≤ _; omega
        refine r_iload dX0_planLastCut_76 rfl ?_
        refine r_iload_n dX0_planLastCut_78 rfl rfl ?_
        refine r_icmp_ge (tgt := 89) dX0_planLastCut_79 (by decide) (by omega) (fun hb5 => ?_) (fun hb5 => ?_)
        · skip
          refine r_iinc (lv' := [(0, Rf G 10), (1, I p), (2, I m), (3, I b), (4, I bc), (5, I mo), (6, I (a + 1)), (7, I ((σ 13 m) - (σ 13 a))), (8, I cc)]) dX0_planLastCut_89 (Nat.le_of_ble_eq_true rfl) rfl rfl ?_
          refine r_goto (tgt := 25) dX0_planLastCut_92 (by decide) ?_
          refine r_sub [0, 1, 2, 3, 4, 5, 6] rfl ?_
          exact ih25 _ (by omega) _ _ (a + 1) _ rfl (hmo) (by omega) (by first | exact (bsF_y ha.1 hcc (by rw [← hb]; show cc < b; omega)).symm | (rw [bsF_n ha.1 hcc (by rw [← hb]; show ¬ cc < b; omega)]; exact hb)) (by omega)
        · skip
          refine r_iload dX0_planLastCut_82 rfl ?_
          refine r_istore_n (lv' := [(0, Rf G 10), (1, I p), (2, I m), (3, I cc), (4, I bc), (5, I mo), (6, I a), (7, I ((σ 13 m) - (σ 13 a))), (8, I cc)]) dX0_planLastCut_84 rfl (Nat.le_of_ble_eq_true rfl) rfl ?_
          refine r_iload dX0_planLastCut_85 rfl ?_
          refine r_istore (lv' := [(0, Rf G 10), (1, I p), (2, I m), (3, I cc), (4, I a), (5, I mo), (6, I a), (7, I ((σ 13 m) - (σ 13 a))), (8, I cc)]) dX0_planLastCut_87 (Nat.le_of_ble_eq_true rfl) rfl ?_
          refine r_iinc (lv' := [(0, Rf G 10), (1, I p), (2, I m), (3, I cc), (4, I a), (5, I mo), (6, I (a + 1)), (7, I ((σ 13 m) - (σ 13 a))), (8, I cc)]) dX0_planLastCut_89 (Nat.le_of_ble_eq_true rfl) rfl rfl ?_
          refine r_goto (tgt := 25) dX0_planLastCut_92 (by decide) ?_
          refine r_sub [0, 1, 2, 3, 4, 5, 6] rfl ?_
          exact ih25 _ (by omega) _ _ (a + 1) _ rfl (hmo) (by omega) (by first | exact (bsF_y ha.1 hcc (by rw [← hb]; show cc < b; omega)).symm | (rw [bsF_n ha.1 hcc (by rw [← hb]; show ¬ cc < b; omega)]; exact hb)) (by omega)
    exact L25 _ _ _ _ _ rfl (by omega) (by omega) (by rw [show (p - 1 - (p - 1)).toNat = 0 by omega]; rfl) (by omega)

theorem dp_step {f w : Int → Int} {p m : Int} (hp : 1 ≤ p) (hpm : p ≤ m) (h : ∀ a, p - 1 ≤ a → a < m → f a = (dpC w (p - 1).toNat a).1) : bsF f w (p - 1) m (cntA p m) = dpC w p.toNat m := by
  obtain ⟨k, rfl⟩ : ∃ k : Nat, p = (k : Int) + 1 := ⟨(p - 1).toNat, by omega⟩
  rw [show ((k : Int) + 1).toNat = k + 1 by omega]
  rw [show ((k : Int) + 1 - 1).toNat = k by omega] at h
  rw [show (k : Int) + 1 - 1 = (k : Int) by omega] at h ⊢
  show _ = bsF (fun a => (dpC w k a).1) w (k : Int) m (cntA ((k : Int) + 1) m)
  apply bsF_c
  intro j a b
  apply h j a
  unfold cntA at b
  by_cases e : (k : Int) + 1 = 1
  · rw [if_pos e] at b; omega
  · rw [if_neg e] at b; omega
def PlanP (σ sv : Sg) : Prop :=
  (∀ a, a ≠ 11 → a ≠ 12 → a ≠ 13 → sv a = σ a) ∧ (∀ j, 0 ≤ j → j ≤ 10 → sv 11 j = 0) ∧ sv 13 0 = 0 ∧ ∀ p m, 1 ≤ p → p ≤ m → m ≤ σ 1 2 → sv 11 (11 * p + m) = (dpC (σ 3) p.toNat m).1 ∧ sv 12 (11 * p + m) = (dpC (σ 3) p.toNat m).2

set_option maxHeartbeats 1000000 in
set_option maxRecDepth 100000 in
theorem tX0_planCuts (G : GT) (σ : Sg)  (hn : 1 ≤ σ 1 2 ∧ σ 1 2 ≤ 10) (hwt : ∀ i, 0 ≤ i → i < σ 1 2 → 1 ≤ σ 3 i ∧ σ 3 i ≤ 99) (h11 : ∀ j, 0 ≤ j → j ≤ 10 → σ 11 j = 0) (h13 : σ 13 0 = 0) : Ct G mX0_planCuts 3 0 0 false (SH Ω) (SH Ω) [Rf G 10] σ (fun rv sv => none = rv ∧ PlanP σ sv) := by
  obtain ⟨P, hP⟩ : ∃ P : Option Value → Sg → Prop, P = (fun rv sv => none = rv ∧ PlanP σ sv) := ⟨_, rfl⟩
  rw [← hP]
  refine ct_of (lv := [(0, Rf G 10)]) (by decide +kernel) (Nat.le_of_ble_eq_true rfl) rfl ?_
  refine r_iconst dX0_planCuts_0 ?_
  refine r_istore_n (lv' := [(0, Rf G 10), (1, I 0)]) dX0_planCuts_1 rfl (Nat.le_of_ble_eq_true rfl) rfl ?_
  refine r_iconst dX0_planCuts_2 ?_
  refine r_istore_n (lv' := [(0, Rf G 10), (1, I 0), (2, I 0)]) dX0_planCuts_3 rfl (Nat.le_of_ble_eq_true rfl) rfl ?_
  have L4 : ∀ (mm : Nat) (t i : Int) (s : Sg), (σ 1 2 - i).toNat = mm → (hi : 0 ≤ i ∧ i ≤ σ 1 2) → (ht : t = wsum (σ 3) i.toNat) → (hS : s = ov σ 13 1 (i + 1) (fun j => wsum (σ 3) j.toNat)) → Rn G mX0_planCuts (rmD 3 0 0) E0 (Zn G false (SH Ω) P 0 0) false (SH Ω) 0 0 4 [(0, Rf G 10), (1, I t), (2, I i)] [] s := by
    intro mm
    induction mm using Nat.strongRecOn with
    | _ mm ih4 =>
    intro t i s hm4 hi ht hS
    have e1 : s 1 = σ 1 := by rw [hS, ov_ne (by decide)]
    have e3 : s 3 = σ 3 := by rw [hS, ov_ne (by decide)]
    refine r_iload_n dX0_planCuts_4 rfl rfl ?_
    refine r_aload_n dX0_planCuts_5 rfl rfl ?_
    refine r_getR (b := 1) dX0_planCuts_6 sh10 rfl (ci := 0) (j := 0) rfl (Nat.le_of_ble_eq_true rfl) ixX0 q87 rfl ?_
    refine r_getI (z := 2) dX0_planCuts_9 sh1 rfl (ci := 5) (j := 2) rfl (Nat.le_of_ble_eq_true rfl) rfl ixX5 q42 rfl (hv := congrFun (e1) 2) ?_
    refine r_icmp_ge (tgt := 43) dX0_planCuts_12 (by decide) (by omega) (fun hb1 => ?_) (fun hb1 => ?_)
    · skip
      refine r_iconst dX0_planCuts_43 ?_
      refine r_istore_n (lv' := [(0, Rf G 10), (1, I t), (2, I 1)]) dX0_planCuts_44 rfl (Nat.le_of_ble_eq_true rfl) rfl ?_
      have L45 : ∀ (mm : Nat) (p : Int) (u : Sg), (11 - p).toNat = mm → (hp : 1 ≤ p ∧ p ≤ σ 1 2 + 1) → (ufr : ∀ a, a ≠ 11 → a ≠ 12 → a ≠ 13 → u a = σ a) → (u13 : ∀ j, 0 ≤ j → j ≤ σ 1 2 → u 13 j = wsum (σ 3) j.toNat) → (u11 : ∀ j, 0 ≤ j → j ≤ 10 → u 11 j = 0) → (udp : ∀ q m, 1 ≤ q → q < p → q ≤ m → m ≤ σ 1 2 → u 11 (11 * q + m) = (dpC (σ 3) q.toNat m).1 ∧ u 12 (11 * q + m) = (dpC (σ 3) q.toNat m).2) → Rn G mX0_planCuts (rmD 3 0 0) E0 (Zn G false (SH Ω) P 0 0) false (SH Ω) 0 0 45 [(0, Rf G 10), (2, I p)] [] u := by
        intro mm
        induction mm using Nat.strongRecOn with
        | _ mm ih45 =>
        intro p u hm45 hp ufr u13 u11 udp
        refine r_iload_n dX0_planCuts_45 rfl rfl ?_
        refine r_aload_n dX0_planCuts_46 rfl rfl ?_
        refine r_getR (b := 1) dX0_planCuts_47 sh10 rfl (ci := 0) (j := 0) rfl (Nat.le_of_ble_eq_true rfl) ixX0 q87 rfl ?_
        refine r_getI (z := 2) dX0_planCuts_50 sh1 rfl (ci := 5) (j := 2) rfl (Nat.le_of_ble_eq_true rfl) rfl ixX5 q42 rfl (hv := congrFun (ufr 1 (by decide) (by decide) (by decide)) 2) ?_
        refine r_icmp_gt (tgt := 87) dX0_planCuts_53 (by decide) (by omega) (fun hb2 => ?_) (fun hb2 => ?_)
        · skip
          exact r_vret dX0_planCuts_87 rfl (by rw [hP]; exact ⟨rfl, ufr, u11, by rw [u13 0 (by omega) (by omega)]; rfl, fun q m h1 h2 h3 => udp q m h1 (by omega) h2 h3⟩)
        · skip
          refine r_iload_n dX0_planCuts_56 rfl rfl ?_
          refine r_istore_n (lv' := [(0, Rf G 10), (2, I p), (3, I p)]) dX0_planCuts_57 rfl (Nat.le_of_ble_eq_true rfl) rfl ?_
          have L58 : ∀ (mm : Nat) (m : Int) (v : Sg), (11 - m).toNat = mm → (hm : p ≤ m ∧ m ≤ σ 1 2 + 1) → (vfr : ∀ a, a ≠ 11 → a ≠ 12 → a ≠ 13 → v a = σ a) → (v13 : ∀ j, 0 ≤ j → j ≤ σ 1 2 → v 13 j = wsum (σ 3) j.toNat) → (v11 : ∀ j, 0 ≤ j → j ≤ 10 → v 11 j = 0) → (vdp : ∀ q m, 1 ≤ q → q < p → q ≤ m → m ≤ σ 1 2 → v 11 (11 * q + m) = (dpC (σ 3) q.toNat m).1 ∧ v 12 (11 * q + m) = (dpC (σ 3) q.toNat m).2) → (vd2 : ∀ k, p ≤ k → k < m → v 11 (11 * p + k) = (dpC (σ 3) p.toNat k).1 ∧ v 12 (11 * p + k) = (dpC (σ 3) p.toNat k).2) → Rn G mX0_planCuts (rmD 3 0 0) E0 (Zn G false (SH Ω) P 0 0) false (SH Ω) 0 0 58 [(0, Rf G 10), (2, I p), (3, I m)] [] v := by
            intro mm
            induction mm using Nat.strongRecOn with
            | _ mm ih58 =>
            intro m v hm58 hm vfr v13 v11 vdp vd2
            refine r_iload_n dX0_planCuts_58 rfl rfl ?_
            refine r_aload_n dX0_planCuts_59 rfl rfl ?_
            refine r_getR (b := 1) dX0_planCuts_60 sh10 rfl (ci := 0) (j := 0) rfl (Nat.le_of_ble_eq_true rfl) ixX0 q87 rfl ?_
            refine r_getI (z := 2) dX0_planCuts_63 sh1 rfl (ci := 5) (j := 2) rfl (Nat.le_of_ble_eq_true rfl) rfl ixX5 q42 rfl (hv := congrFun (vfr 1 (by decide) (by decide) (by decide)) 2) ?_
            refine r_icmp_gt (tgt := 81) dX0_planCuts_66 (by decide) (by omega) (fun hb3 => ?_) (fun hb3 => ?_)
            · skip
              refine r_iinc (lv' := [(0, Rf G 10), (2, I (p + 1)), (3, I m)]) dX0_planCuts_81 (Nat.le_of_ble_eq_true rfl) rfl rfl ?_
              refine r_goto (tgt := 45) dX0_planCuts_84 (by decide) ?_
              refine r_sub [0, 1] rfl ?_
              exact ih45 _ (by omega) (p + 1) _ rfl (by omega) (vfr) (v13) (v11) (by intro q m9 h1 h2 h3 h4; by_cases z : q = p; (rw [z]; exact vd2 m9 (by omega) (by omega)); (exact vdp q m9 h1 (by omega) h3 h4))
            · skip
              have hd1 : ∀ a, p - 1 ≤ a → a < m → v 11 (11 * (p - 1) + a) = (dpC (σ 3) (p - 1).toNat a).1 := by intro a h1 h2; by_cases z : p = 1; (rw [z, show (1 - 1 : Int).toNat = 0 from rfl, show 11 * (1 - 1) + a = a by omega, v11 a (by omega) (by omega)]; rfl); (exact (vdp (p - 1) a (by omega) (by omega) h1 (by omega)).1)
              have hds : (bsF (fun a => v 11 (11 * (p - 1) + a)) (v 3) (p - 1) m (cntA p m)) = dpC (σ 3) p.toNat m := by rw [vfr 3 (by decide) (by decide) (by decide)]; exact dp_step hp.1 hm.1 hd1
              refine r_aload_n dX0_planCuts_69 rfl rfl ?_
              refine r_iload_n dX0_planCuts_70 rfl rfl ?_
              refine r_iload_n dX0_planCuts_71 rfl rfl ?_
              refine r_callV (tX0_planLastCut G v p m (by omega) (by intro j a b; rw [vfr 3 (by decide) (by decide) (by decide)]; exact v13 j a (by omega)) (by intro a h1 h2; rw [hd1 a h1 h2]; by_cases z : p = 1; (rw [z]; exact ⟨Int.le_refl 0, by show (0 : Int) ≤ 100000000; decide⟩); (have := dpC_bd (w := σ 3) (n := σ 1 2) hn.2 hwt (p - 1).toNat a (by omega) (by omega) (by omega); omega)) (by intro a h1 h2; rw [vfr 3 (by decide) (by decide) (by decide)]; exact Sm_bd hn.2 hwt h1 h2 (by omega))) dX0_planCuts_72 svX0_planLastCut q489 sh10 (ci := 0) rfl rfl rfl ⟨Nat.le_of_ble_eq_true rfl, Nat.le_of_ble_eq_true rfl⟩ (Nat.le_of_ble_eq_true rfl) ⟨Nat.le_of_ble_eq_true rfl, Nat.le_of_ble_eq_true rfl⟩ ?_
              rintro _ _ ⟨rfl, rfl⟩
              refine r_iinc (lv' := [(0, Rf G 10), (2, I p), (3, I (m + 1))]) dX0_planCuts_75 (Nat.le_of_ble_eq_true rfl) rfl rfl ?_
              refine r_goto (tgt := 58) dX0_planCuts_78 (by decide) ?_
              exact ih58 _ (by omega) (m + 1) _ rfl (by omega) (fun a h1 h2 h3 => by rw [up_ne h2, up_ne h1]; exact vfr a h1 h2 h3) (by rw [up_ne (by decide), up_ne (by decide)]; exact v13) (by intro j a b; rw [up_ne (by decide), up_nj (by omega)]; exact v11 j a b) (by intro q m9 h1 h2 h3 h4; rw [up_ne (by decide), up_nj (by omega), up_nj (by omega), up_ne (by decide)]; exact vdp q m9 h1 h2 h3 h4) (by intro k h1 h2; by_cases z : k = m; (rw [z, up_ne (by decide), up_eq, up_eq, hds]; exact ⟨rfl, rfl⟩); (rw [up_ne (by decide), up_nj (by omega), up_nj (by omega), up_ne (by decide)]; exact vd2 k h1 (by omega)))
          exact L58 _ p _ rfl (by omega) (ufr) (u13) (u11) (udp) (fun k h1 h2 => by omega)
      refine r_sub [0, 2] rfl ?_
      exact L45 _ 1 _ rfl (by omega) (fun a h1 h2 h3 => by rw [hS, ov_ne h3]) (by intro j a b; rw [hS, ov_at]; by_cases z : j = 0; (rw [if_neg (by omega), z, h13]; rfl); (rw [if_pos (by omega)])) (by intro j a b; rw [hS, ov_ne (by decide)]; exact h11 j a b) (fun q m h1 h2 => by omega)
    · skip
      refine r_iload_n dX0_planCuts_15 rfl rfl ?_
      refine r_aload_n dX0_planCuts_16 rfl rfl ?_
      refine r_getR (b := 1) dX0_planCuts_17 sh10 rfl (ci := 0) (j := 0) rfl (Nat.le_of_ble_eq_true rfl) ixX0 q87 rfl ?_
      refine r_iload_n dX0_planCuts_20 rfl rfl ?_
      refine r_callV (tX5_weightAt G s i (by omega)) dX0_planCuts_21 svX5_weightAt q487 sh1 (ci := 5) rfl rfl rfl ⟨Nat.le_of_ble_eq_true rfl, Nat.le_of_ble_eq_true rfl⟩ (Nat.le_of_ble_eq_true rfl) ⟨Nat.le_of_ble_eq_true rfl, Nat.le_of_ble_eq_true rfl⟩ ?_
      rintro _ _ ⟨rfl, rfl⟩
      rw [show s 3 i = σ 3 i from congrFun (e3) i]
      refine r_iadd dX0_planCuts_24 ?_
      refine r_istore_n (lv' := [(0, Rf G 10), (1, I (t + (σ 3 i))), (2, I i)]) dX0_planCuts_25 rfl (Nat.le_of_ble_eq_true rfl) rfl ?_
      refine r_aload_n dX0_planCuts_26 rfl rfl ?_
      refine r_getR (b := 13) dX0_planCuts_27 sh10 rfl (ci := 0) (j := 3) rfl (Nat.le_of_ble_eq_true rfl) ixX0 q90 rfl ?_
      refine r_iload_n dX0_planCuts_30 rfl rfl ?_
      refine r_iconst dX0_planCuts_31 ?_
      refine r_iadd dX0_planCuts_32 ?_
      refine r_iload_n dX0_planCuts_33 rfl rfl ?_
      refine r_callSN (tX7_setIn G s 13 (i + 1) (t + (σ 3 i)) 11 (sh13) (by omega)) dX0_planCuts_34 svX7_setIn nw12 rfl ⟨Nat.le_of_ble_eq_true rfl, Nat.le_of_ble_eq_true rfl⟩ (Nat.le_of_ble_eq_true rfl) ⟨Nat.le_of_ble_eq_true rfl, Nat.le_of_ble_eq_true rfl⟩ ?_
      rintro _ _ ⟨rfl, rfl⟩
      refine r_iinc (lv' := [(0, Rf G 10), (1, I (t + (σ 3 i))), (2, I (i + 1))]) dX0_planCuts_37 (Nat.le_of_ble_eq_true rfl) rfl rfl ?_
      refine r_goto (tgt := 4) dX0_planCuts_40 (by decide) ?_
      exact ih4 _ (by omega) _ (i + 1) _ rfl (by omega) (by rw [ht, wsum_s hi.1]) (by rw [hS]; exact ov_s (by omega) (by rw [ht, wsum_s hi.1]))
  exact L4 _ 0 0 _ rfl (by omega) (rfl) ((ov_0 (by omega)).symm)
