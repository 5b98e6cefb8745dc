variable {Ω : List Ob}
def cp (σ : Sg) (a b : Nat) (N : Int) : Sg := fun o j => if o = b then (if 0 ≤ j ∧ j < N then σ a j else σ b j) else σ o j
theorem cp_ne {σ : Sg} {a b o : Nat} {N : Int} (h : o ≠ b) : cp σ a b N o = σ o := by funext j; simp [cp, h]
theorem cp_eq {σ : Sg} {a b : Nat} {N j : Int} : cp σ a b N b j = if 0 ≤ j ∧ j < N then σ a j else σ b j := by simp [cp]
theorem cp_0 {σ : Sg} {a b : Nat} : σ = cp σ a b 0 := by
  funext o j
  by_cases h : o = b
  · subst h
    rw [cp_eq, if_neg (by omega)]
  · rw [cp_ne h]
theorem cp_s {σ : Sg} {a b : Nat} {i : Int} (h : a ≠ b) (hi : 0 ≤ i) : up (cp σ a b i) b i (cp σ a b i a i) = cp σ a b (i + 1) := by
  funext o j
  rw [cp_ne h]
  by_cases ho : o = b
  · subst ho
    rw [up_at, cp_eq, cp_eq]
    by_cases hj : j = i
    · subst hj
      rw [if_pos rfl, if_pos (by omega)]
    · rw [if_neg hj]
      by_cases hq : 0 ≤ j ∧ j < i
      · rw [if_pos hq, if_pos (by omega)]
      · rw [if_neg hq, if_neg (by omega)]
  · rw [up_ne ho, cp_ne ho, cp_ne ho]
def wsum (f : Int → Int) : Nat → Int
  | 0 => 0
  | k + 1 => wsum f k + f k
theorem wsum_s {f : Int → Int} {i : Int} (h : 0 ≤ i) : wsum f (i + 1).toNat = wsum f i.toNat + f i := by
  obtain ⟨k, rfl⟩ : ∃ k : Nat, i = (k : Int) := ⟨i.toNat, by omega⟩
  rw [show ((k : Int) + 1).toNat = k + 1 by omega, show ((k : Int)).toNat = k by omega]
  rfl
set_option maxHeartbeats 1000000 in
set_option maxRecDepth 100000 in
theorem tX7_isFromTo (G : GT) (σ : Sg) (x lo hi : Int) (h : -2147483648 ≤ x ∧ x ≤ 2147483647 ∧ -2147483648 ≤ lo ∧ lo ≤ 2147483647 ∧ -2147483648 ≤ hi ∧ hi ≤ 2147483647) : Ct G mX7_isFromTo 1 0 0 false (SH Ω) (SH Ω) [I x, I lo, I hi] σ (fun rv sv => (((lo ≤ x ∧ x ≤ hi) ∧ some (I 1) = rv) ∨ (¬ (lo ≤ x ∧ x ≤ hi) ∧ some (I 0) = rv)) ∧ σ = sv) := by
  obtain ⟨P, hP⟩ : ∃ P : Option Value → Sg → Prop, P = (fun rv sv => (((lo ≤ x ∧ x ≤ hi) ∧ some (I 1) = rv) ∨ (¬ (lo ≤ x ∧ x ≤ hi) ∧ some (I 0) = rv)) ∧ σ = sv) := ⟨_, rfl⟩
  rw [← hP]
  refine ct_of (lv := [(0, I x), (1, I lo), (2, I hi)]) (by decide +kernel) (Nat.le_of_ble_eq_true rfl) rfl ?_
  refine r_iload_n dX7_isFromTo_0 rfl rfl ?_
  refine r_iload_n dX7_isFromTo_1 rfl rfl ?_
  refine r_icmp_lt (tgt := 14) dX7_isFromTo_2 (by decide) (by omega) (fun hb1 => ?_) (fun hb1 => ?_)
  · skip
    refine r_iconst dX7_isFromTo_14 ?_
    exact r_zret dX7_isFromTo_15 rfl (by first | rfl | decide) (by rw [hP]; exact ⟨by first | exact Or.inl ⟨by omega, rfl⟩ | exact Or.inr ⟨by omega, rfl⟩, rfl⟩)
  · skip
    refine r_iload_n dX7_isFromTo_5 rfl rfl ?_
    refine r_iload_n dX7_isFromTo_6 rfl rfl ?_
    refine r_icmp_gt (tgt := 14) dX7_isFromTo_7 (by decide) (by omega) (fun hb2 => ?_) (fun hb2 => ?_)
    · skip
      refine r_iconst dX7_isFromTo_14 ?_
      exact r_zret dX7_isFromTo_15 rfl (by first | rfl | decide) (by rw [hP]; exact ⟨by first | exact Or.inl ⟨by omega, rfl⟩ | exact Or.inr ⟨by omega, rfl⟩, rfl⟩)
    · skip
      refine r_iconst dX7_isFromTo_10 ?_
      refine r_goto (tgt := 15) dX7_isFromTo_11 (by decide) ?_
      exact r_zret dX7_isFromTo_15 rfl (by first | rfl | decide) (by rw [hP]; exact ⟨by first | exact Or.inl ⟨by omega, rfl⟩ | exact Or.inr ⟨by omega, rfl⟩, rfl⟩)
set_option maxHeartbeats 1000000 in
set_option maxRecDepth 100000 in
theorem tX7_numberIn (G : GT) (σ : Sg) (a : Nat) (i : Int) (N : Nat) (hs : (SH Ω)[a]? = some (.inr (.inl N))) (hi : 0 ≤ i ∧ i < (N : Int) ∧ (N : Int) ≤ 2147483647) : Ct G mX7_numberIn 1 0 0 false (SH Ω) (SH Ω) [Rf G a, I i] σ (fun rv sv => some (I (σ a i)) = rv ∧ σ = sv) := by
  obtain ⟨P, hP⟩ : ∃ P : Option Value → Sg → Prop, P = (fun rv sv => some (I (σ a i)) = rv ∧ σ = sv) := ⟨_, rfl⟩
  rw [← hP]
  refine ct_of (lv := [(0, Rf G a), (1, I i)]) (by decide +kernel) (Nat.le_of_ble_eq_true rfl) rfl ?_
  refine r_aload_n dX7_numberIn_0 rfl rfl ?_
  refine r_ifnull dX7_numberIn_1 ?_
  refine r_iload_n dX7_numberIn_4 rfl rfl ?_
  refine r_if_lt (tgt := 14) dX7_numberIn_5 (by decide) (by omega) (fun hb1 => ?_) (fun hb1 => ?_)
  · skip
    exact absurd hb1 (by omega)
  · skip
    refine r_iload_n dX7_numberIn_8 rfl rfl ?_
    refine r_aload_n dX7_numberIn_9 rfl rfl ?_
    refine r_alen dX7_numberIn_10 hs ?_
    refine r_icmp_lt (tgt := 18) dX7_numberIn_11 (by decide) (by omega) (fun hb2 => ?_) (fun hb2 => ?_)
    · skip
      refine r_aload_n dX7_numberIn_18 rfl rfl ?_
      refine r_iload_n dX7_numberIn_19 rfl rfl ?_
      refine r_iald dX7_numberIn_20 hs (by omega) (hv := rfl) ?_
      exact r_iret dX7_numberIn_21 rfl (by rw [hP]; exact ⟨rfl, rfl⟩)
    · skip
      exact absurd hb2 (by omega)
set_option maxHeartbeats 1000000 in
set_option maxRecDepth 100000 in
theorem tX7_setIn (G : GT) (σ : Sg) (a : Nat) (i w : Int) (N : Nat) (hs : (SH Ω)[a]? = some (.inr (.inl N))) (hi : 0 ≤ i ∧ i < (N : Int) ∧ (N : Int) ≤ 2147483647) : Ct G mX7_setIn 1 0 0 false (SH Ω) (SH Ω) [Rf G a, I i, I w] σ (fun rv sv => none = rv ∧ up σ a i w = sv) := by
  obtain ⟨P, hP⟩ : ∃ P : Option Value → Sg → Prop, P = (fun rv sv => none = rv ∧ up σ a i w = sv) := ⟨_, rfl⟩
  rw [← hP]
  refine ct_of (lv := [(0, Rf G a), (1, I i), (2, I w)]) (by decide +kernel) (Nat.le_of_ble_eq_true rfl) rfl ?_
  refine r_aload_n dX7_setIn_0 rfl rfl ?_
  refine r_ifnull dX7_setIn_1 ?_
  refine r_iload_n dX7_setIn_4 rfl rfl ?_
  refine r_if_lt (tgt := 18) dX7_setIn_5 (by decide) (by omega) (fun hb1 => ?_) (fun hb1 => ?_)
  · skip
    exact absurd hb1 (by omega)
  · skip
    refine r_iload_n dX7_setIn_8 rfl rfl ?_
    refine r_aload_n dX7_setIn_9 rfl rfl ?_
    refine r_alen dX7_setIn_10 hs ?_
    refine r_icmp_ge (tgt := 18) dX7_setIn_11 (by decide) (by omega) (fun hb2 => ?_) (fun hb2 => ?_)
    · skip
      exact absurd hb2 (by omega)
    · skip
      refine r_aload_n dX7_setIn_14 rfl rfl ?_
      refine r_iload_n dX7_setIn_15 rfl rfl ?_
      refine r_iload_n dX7_setIn_16 rfl rfl ?_
      refine r_iast dX7_setIn_17 hs (by omega) ?_
      exact r_vret dX7_setIn_18 rfl (by rw [hP]; exact ⟨rfl, rfl⟩)
set_option maxHeartbeats 1000000 in
set_option maxRecDepth 100000 in
theorem tX7_copyAll (G : GT) (σ : Sg) (a b : Nat) (N : Nat) (hs : (SH Ω)[a]? = some (.inr (.inl N))) (ht : (SH Ω)[b]? = some (.inr (.inl N))) (hab : a ≠ b) (hN : (N : Int) ≤ 2147483647) : Ct G mX7_copyAll 1 0 0 false (SH Ω) (SH Ω) [Rf G a, Rf G b] σ (fun rv sv => none = rv ∧ cp σ a b (N : Int) = sv) := by
  obtain ⟨P, hP⟩ : ∃ P : Option Value → Sg → Prop, P = (fun rv sv => none = rv ∧ cp σ a b (N : Int) = sv) := ⟨_, rfl⟩
  rw [← hP]
  refine ct_of (lv := [(0, Rf G a), (1, Rf G b)]) (by decide +kernel) (Nat.le_of_ble_eq_true rfl) rfl ?_
  refine r_aload_n dX7_copyAll_0 rfl rfl ?_
  refine r_ifnull dX7_copyAll_1 ?_
  refine r_aload_n dX7_copyAll_4 rfl rfl ?_
  refine r_ifnonnull (tgt := 9) dX7_copyAll_5 (by decide) ?_
  refine r_iconst dX7_copyAll_9 ?_
  refine r_istore_n (lv' := [(0, Rf G a), (1, Rf G b), (2, I 0)]) dX7_copyAll_10 rfl (Nat.le_of_ble_eq_true rfl) rfl ?_
  have L11 : ∀ (mm : Nat) (i : Int) (s : Sg), ((N : Int) - i).toNat = mm → (hi : 0 ≤ i ∧ i ≤ (N : Int)) → (hS : s = cp σ a b i) → Rn G mX7_copyAll (rmD 1 0 0) E0 (Zn G false (SH Ω) P 0 0) false (SH Ω) 0 0 11 [(0, Rf G a), (1, Rf G b), (2, I i)] [] s := by
    intro mm
    induction mm using Nat.strongRecOn with
    | _ mm ih11 =>
    intro i s hm11 hi hS
    refine r_iload_n dX7_copyAll_11 rfl rfl ?_
    refine r_aload_n dX7_copyAll_12 rfl rfl ?_
    refine r_alen dX7_copyAll_13 hs ?_
    refine r_icmp_ge (tgt := 35) dX7_copyAll_14 (by decide) (by omega) (fun hb1 => ?_) (fun hb1 => ?_)
    · skip
      exact r_vret dX7_copyAll_35 rfl (by rw [hP]; exact ⟨rfl, by rw [hS, show i = (N : Int) by omega]⟩)
    · skip
      refine r_iload_n dX7_copyAll_17 rfl rfl ?_
      refine r_aload_n dX7_copyAll_18 rfl rfl ?_
      refine r_alen dX7_copyAll_19 ht ?_
      refine r_icmp_ge (tgt := 35) dX7_copyAll_20 (by decide) (by omega) (fun hb2 => ?_) (fun hb2 => ?_)
      · skip
        exact r_vret dX7_copyAll_35 rfl (by rw [hP]; exact ⟨rfl, by rw [hS, show i = (N : Int) by omega]⟩)
      · skip
        refine r_aload_n dX7_copyAll_23 rfl rfl ?_
        refine r_iload_n dX7_copyAll_24 rfl rfl ?_
        refine r_aload_n dX7_copyAll_25 rfl rfl ?_
        refine r_iload_n dX7_copyAll_26 rfl rfl ?_
        refine r_iald dX7_copyAll_27 hs (by omega) (hv := rfl) ?_
        refine r_iast dX7_copyAll_28 ht (by omega) ?_
        refine r_iinc (lv' := [(0, Rf G a), (1, Rf G b), (2, I (i + 1))]) dX7_copyAll_29 (Nat.le_of_ble_eq_true rfl) rfl rfl ?_
        refine r_goto (tgt := 11) dX7_copyAll_32 (by decide) ?_
        exact ih11 _ (by omega) (i + 1) _ rfl (by omega) (by rw [hS]; exact cp_s hab hi.1)
  exact L11 _ 0 _ rfl (by omega) (cp_0)
set_option maxHeartbeats 1000000 in
set_option maxRecDepth 100000 in
theorem tX7_isWay (G : GT) (σ : Sg) (w : Int) (h : -2147483648 ≤ w ∧ w ≤ 2147483647) : Ct G mX7_isWay 2 0 0 false (SH Ω) (SH Ω) [I w] σ (fun rv sv => (((0 ≤ w ∧ w ≤ 2) ∧ some (I 1) = rv) ∨ (¬ (0 ≤ w ∧ w ≤ 2) ∧ some (I 0) = rv)) ∧ σ = sv) := by
  obtain ⟨P, hP⟩ : ∃ P : Option Value → Sg → Prop, P = (fun rv sv => (((0 ≤ w ∧ w ≤ 2) ∧ some (I 1) = rv) ∨ (¬ (0 ≤ w ∧ w ≤ 2) ∧ some (I 0) = rv)) ∧ σ = sv) := ⟨_, rfl⟩
  rw [← hP]
  refine ct_of (lv := [(0, I w)]) (by decide +kernel) (Nat.le_of_ble_eq_true rfl) rfl ?_
  refine r_iload_n dX7_isWay_0 rfl rfl ?_
  refine r_iconst dX7_isWay_1 ?_
  refine r_iconst dX7_isWay_2 ?_
  refine r_callS (tX7_isFromTo G σ w 0 2 (by omega)) dX7_isWay_3 svX7_isFromTo q186 rfl ⟨Nat.le_of_ble_eq_true rfl, Nat.le_of_ble_eq_true rfl⟩ (Nat.le_of_ble_eq_true rfl) ⟨Nat.le_of_ble_eq_true rfl, Nat.le_of_ble_eq_true rfl⟩ ?_
  rintro _ _ ⟨⟨hq1, rfl⟩ | ⟨hq1, rfl⟩, rfl⟩
  · skip
    exact r_zret dX7_isWay_6 rfl (by first | rfl | decide) (by rw [hP]; exact ⟨by first | exact Or.inl ⟨by omega, rfl⟩ | exact Or.inr ⟨by omega, rfl⟩, rfl⟩)
  · skip
    exact r_zret dX7_isWay_6 rfl (by first | rfl | decide) (by rw [hP]; exact ⟨by first | exact Or.inl ⟨by omega, rfl⟩ | exact Or.inr ⟨by omega, rfl⟩, rfl⟩)
set_option maxHeartbeats 1000000 in
set_option maxRecDepth 100000 in
theorem tX7_slotAt0 (G : GT) (σ : Sg) (w : Int) (h : w = 0) : Ct G mX7_slotAt 1 0 0 false (SH Ω) (SH Ω) [Rf G 0, I w] σ (fun rv sv => some (Rf G 38) = rv ∧ σ = sv) := by
  obtain ⟨P, hP⟩ : ∃ P : Option Value → Sg → Prop, P = (fun rv sv => some (Rf G 38) = rv ∧ σ = sv) := ⟨_, rfl⟩
  rw [← hP]
  refine ct_of (lv := [(0, Rf G 0), (1, I w)]) (by decide +kernel) (Nat.le_of_ble_eq_true rfl) rfl ?_
  refine r_iload_n dX7_slotAt_0 rfl rfl ?_
  refine r_if_ne (tgt := 11) dX7_slotAt_1 (by decide) (by omega) (fun hb1 => ?_) (fun hb1 => ?_)
  · skip
    exact absurd hb1 (by omega)
  · skip
    refine r_aload_n dX7_slotAt_4 rfl rfl ?_
    refine r_getR (b := 38) dX7_slotAt_5 sh0 rfl (ci := 7) (j := 6) rfl (Nat.le_of_ble_eq_true rfl) ixX7 q137 rfl ?_
    refine r_goto (tgt := 15) dX7_slotAt_8 (by decide) ?_
    exact r_aret dX7_slotAt_15 rfl (by rw [hP]; exact ⟨rfl, rfl⟩)
set_option maxHeartbeats 1000000 in
set_option maxRecDepth 100000 in
theorem tX7_slotAt1 (G : GT) (σ : Sg) (w : Int) (h : w = 1) : Ct G mX7_slotAt 1 0 0 false (SH Ω) (SH Ω) [Rf G 0, I w] σ (fun rv sv => some (Rf G 42) = rv ∧ σ = sv) := by
  obtain ⟨P, hP⟩ : ∃ P : Option Value → Sg → Prop, P = (fun rv sv => some (Rf G 42) = rv ∧ σ = sv) := ⟨_, rfl⟩
  rw [← hP]
  refine ct_of (lv := [(0, Rf G 0), (1, I w)]) (by decide +kernel) (Nat.le_of_ble_eq_true rfl) rfl ?_
  refine r_iload_n dX7_slotAt_0 rfl rfl ?_
  refine r_if_ne (tgt := 11) dX7_slotAt_1 (by decide) (by omega) (fun hb1 => ?_) (fun hb1 => ?_)
  · skip
    refine r_aload_n dX7_slotAt_11 rfl rfl ?_
    refine r_getR (b := 42) dX7_slotAt_12 sh0 rfl (ci := 7) (j := 7) rfl (Nat.le_of_ble_eq_true rfl) ixX7 q138 rfl ?_
    exact r_aret dX7_slotAt_15 rfl (by rw [hP]; exact ⟨rfl, rfl⟩)
  · skip
    exact absurd hb1 (by omega)
set_option maxHeartbeats 1000000 in
set_option maxRecDepth 100000 in
theorem tX5_hasCell (G : GT) (σ : Sg) (r c : Int) (h : -2147483648 ≤ r ∧ r ≤ 2147483647 ∧ -2147483648 ≤ c ∧ c ≤ 2147483647) (hR : 1 ≤ σ 1 0 ∧ σ 1 0 ≤ 10) (hC : 1 ≤ σ 1 1 ∧ σ 1 1 ≤ 10) : Ct G mX5_hasCell 2 0 0 false (SH Ω) (SH Ω) [Rf G 1, I r, I c] σ (fun rv sv => ((((0 ≤ r ∧ r < σ 1 0) ∧ (0 ≤ c ∧ c < σ 1 1)) ∧ some (I 1) = rv) ∨ (¬ ((0 ≤ r ∧ r < σ 1 0) ∧ (0 ≤ c ∧ c < σ 1 1)) ∧ some (I 0) = rv)) ∧ σ = sv) := by
  obtain ⟨P, hP⟩ : ∃ P : Option Value → Sg → Prop, P = (fun rv sv => ((((0 ≤ r ∧ r < σ 1 0) ∧ (0 ≤ c ∧ c < σ 1 1)) ∧ some (I 1) = rv) ∨ (¬ ((0 ≤ r ∧ r < σ 1 0) ∧ (0 ≤ c ∧ c < σ 1 1)) ∧ some (I 0) = rv)) ∧ σ = sv) := ⟨_, rfl⟩
  rw [← hP]
  refine ct_of (lv := [(0, Rf G 1), (1, I r), (2, I c)]) (by decide +kernel) (Nat.le_of_ble_eq_true rfl) rfl ?_
  refine r_iload_n dX5_hasCell_0 rfl rfl ?_
  refine r_iconst dX5_hasCell_1 ?_
  refine r_aload_n dX5_hasCell_2 rfl rfl ?_
  refine r_getI (z := 0) dX5_hasCell_3 sh1 rfl (ci := 5) (j := 0) rfl (Nat.le_of_ble_eq_true rfl) rfl ixX5 q33 rfl (hv := rfl) ?_
  refine r_iconst dX5_hasCell_6 ?_
  refine r_isub dX5_hasCell_7 ?_
  refine r_callSN (tX7_isFromTo G σ r 0 ((σ 1 0) - 1) (by omega)) dX5_hasCell_8 svX7_isFromTo nw3 rfl ⟨Nat.le_of_ble_eq_true rfl, Nat.le_of_ble_eq_true rfl⟩ (Nat.le_of_ble_eq_true rfl) ⟨Nat.le_of_ble_eq_true rfl, Nat.le_of_ble_eq_true rfl⟩ ?_
  rintro _ _ ⟨⟨hq1, rfl⟩ | ⟨hq1, rfl⟩, rfl⟩
  · skip
    refine r_if_eq (tgt := 32) dX5_hasCell_11 (by decide) (by omega) (fun hb2 => ?_) (fun hb2 => ?_)
    · skip
      exact absurd hb2 (by omega)
    · skip
      refine r_iload_n dX5_hasCell_14 rfl rfl ?_
      refine r_iconst dX5_hasCell_15 ?_
      refine r_aload_n dX5_hasCell_16 rfl rfl ?_
      refine r_getI (z := 1) dX5_hasCell_17 sh1 rfl (ci := 5) (j := 1) rfl (Nat.le_of_ble_eq_true rfl) rfl ixX5 q37 rfl (hv := rfl) ?_
      refine r_iconst dX5_hasCell_20 ?_
      refine r_isub dX5_hasCell_21 ?_
      refine r_callSN (tX7_isFromTo G σ c 0 ((σ 1 1) - 1) (by omega)) dX5_hasCell_22 svX7_isFromTo nw3 rfl ⟨Nat.le_of_ble_eq_true rfl, Nat.le_of_ble_eq_true rfl⟩ (Nat.le_of_ble_eq_true rfl) ⟨Nat.le_of_ble_eq_true rfl, Nat.le_of_ble_eq_true rfl⟩ ?_
      rintro _ _ ⟨⟨hq3, rfl⟩ | ⟨hq3, rfl⟩, rfl⟩
      · skip
        refine r_if_eq (tgt := 32) dX5_hasCell_25 (by decide) (by omega) (fun hb4 => ?_) (fun hb4 => ?_)
        · skip
          exact absurd hb4 (by omega)
        · skip
          refine r_iconst dX5_hasCell_28 ?_
          refine r_goto (tgt := 33) dX5_hasCell_29 (by decide) ?_
          exact r_zret dX5_hasCell_33 rfl (by first | rfl | decide) (by rw [hP]; exact ⟨by first | exact Or.inl ⟨by omega, rfl⟩ | exact Or.inr ⟨by omega, rfl⟩, rfl⟩)
      · skip
        refine r_if_eq (tgt := 32) dX5_hasCell_25 (by decide) (by omega) (fun hb5 => ?_) (fun hb5 => ?_)
        · skip
          refine r_iconst dX5_hasCell_32 ?_
          exact r_zret dX5_hasCell_33 rfl (by first | rfl | decide) (by rw [hP]; exact ⟨by first | exact Or.inl ⟨by omega, rfl⟩ | exact Or.inr ⟨by omega, rfl⟩, rfl⟩)
        · skip
          exact absurd hb5 (by omega)
  · skip
    refine r_if_eq (tgt := 32) dX5_hasCell_11 (by decide) (by omega) (fun hb6 => ?_) (fun hb6 => ?_)
    · skip
      refine r_iconst dX5_hasCell_32 ?_
      exact r_zret dX5_hasCell_33 rfl (by first | rfl | decide) (by rw [hP]; exact ⟨by first | exact Or.inl ⟨by omega, rfl⟩ | exact Or.inr ⟨by omega, rfl⟩, rfl⟩)
    · skip
      exact absurd hb6 (by omega)
set_option maxHeartbeats 1000000 in
set_option maxRecDepth 100000 in
theorem tX5_sizeCode (G : GT) (σ : Sg)  : Ct G mX5_sizeCode 1 0 0 false (SH Ω) (SH Ω) [Rf G 1] σ (fun rv sv => some (I (11 * σ 1 0 + σ 1 1)) = rv ∧ σ = sv) := by
  obtain ⟨P, hP⟩ : ∃ P : Option Value → Sg → Prop, P = (fun rv sv => some (I (11 * σ 1 0 + σ 1 1)) = rv ∧ σ = sv) := ⟨_, rfl⟩
  rw [← hP]
  refine ct_of (lv := [(0, Rf G 1)]) (by decide +kernel) (Nat.le_of_ble_eq_true rfl) rfl ?_
  refine r_bipush dX5_sizeCode_0 rfl ?_
  refine r_aload_n dX5_sizeCode_2 rfl rfl ?_
  refine r_getI (z := 0) dX5_sizeCode_3 sh1 rfl (ci := 5) (j := 0) rfl (Nat.le_of_ble_eq_true rfl) rfl ixX5 q33 rfl (hv := rfl) ?_
  refine r_imul dX5_sizeCode_6 ?_
  refine r_aload_n dX5_sizeCode_7 rfl rfl ?_
  refine r_getI (z := 1) dX5_sizeCode_8 sh1 rfl (ci := 5) (j := 1) rfl (Nat.le_of_ble_eq_true rfl) rfl ixX5 q37 rfl (hv := rfl) ?_
  refine r_iadd dX5_sizeCode_11 ?_
  exact r_iret dX5_sizeCode_12 rfl (by rw [hP]; exact ⟨rfl, rfl⟩)
set_option maxHeartbeats 1000000 in
set_option maxRecDepth 100000 in
theorem tX5_numberAt (G : GT) (σ : Sg) (r c : Int) (h : 0 ≤ r ∧ r < 10 ∧ 0 ≤ c ∧ c < 10) : Ct G mX5_numberAt 1 0 0 false (SH Ω) (SH Ω) [Rf G 1, I r, I c] σ (fun rv sv => some (I (σ 2 (10 * r + c))) = rv ∧ σ = sv) := by
  obtain ⟨P, hP⟩ : ∃ P : Option Value → Sg → Prop, P = (fun rv sv => some (I (σ 2 (10 * r + c))) = rv ∧ σ = sv) := ⟨_, rfl⟩
  rw [← hP]
  refine ct_of (lv := [(0, Rf G 1), (1, I r), (2, I c)]) (by decide +kernel) (Nat.le_of_ble_eq_true rfl) rfl ?_
  refine r_iload_n dX5_numberAt_0 rfl rfl ?_
  refine r_bipush dX5_numberAt_1 rfl ?_
  refine r_imul dX5_numberAt_3 ?_
  refine r_iload_n dX5_numberAt_4 rfl rfl ?_
  refine r_iadd dX5_numberAt_5 ?_
  refine r_istore_n (lv' := [(0, Rf G 1), (1, I r), (2, I c), (3, I ((r * 10) + c))]) dX5_numberAt_6 rfl (Nat.le_of_ble_eq_true rfl) rfl ?_
  refine r_iload_n dX5_numberAt_7 rfl rfl ?_
  refine r_if_lt (tgt := 20) dX5_numberAt_8 (by decide) (by omega) (fun hb1 => ?_) (fun hb1 => ?_)
  · skip
    exact absurd hb1 (by omega)
  · skip
    refine r_iload_n dX5_numberAt_11 rfl rfl ?_
    refine r_aload_n dX5_numberAt_12 rfl rfl ?_
    refine r_getR (b := 2) dX5_numberAt_13 sh1 rfl (ci := 5) (j := 6) rfl (Nat.le_of_ble_eq_true rfl) ixX5 q50 rfl ?_
    refine r_alen dX5_numberAt_16 sh2 ?_
    refine r_icmp_lt (tgt := 24) dX5_numberAt_17 (by decide) (by omega) (fun hb2 => ?_) (fun hb2 => ?_)
    · skip
      refine r_aload_n dX5_numberAt_24 rfl rfl ?_
      refine r_getR (b := 2) dX5_numberAt_25 sh1 rfl (ci := 5) (j := 6) rfl (Nat.le_of_ble_eq_true rfl) ixX5 q50 rfl ?_
      refine r_iload_n dX5_numberAt_28 rfl rfl ?_
      refine r_iald dX5_numberAt_29 sh2 (by omega) (hv := rfl) ?_
      exact r_iret dX5_numberAt_30 rfl (by rw [hP]; exact ⟨by rw [show r * 10 + c = 10 * r + c by omega], rfl⟩)
    · skip
      exact absurd hb2 (by omega)
set_option maxHeartbeats 1000000 in
set_option maxRecDepth 100000 in
theorem tX5_setNumber (G : GT) (σ : Sg) (r c v : Int) (h : 0 ≤ r ∧ r < 10 ∧ 0 ≤ c ∧ c < 10) : Ct G mX5_setNumber 2 0 0 false (SH Ω) (SH Ω) [Rf G 1, I r, I c, I v] σ (fun rv sv => none = rv ∧ up σ 2 (10 * r + c) v = sv) := by
  obtain ⟨P, hP⟩ : ∃ P : Option Value → Sg → Prop, P = (fun rv sv => none = rv ∧ up σ 2 (10 * r + c) v = sv) := ⟨_, rfl⟩
  rw [← hP]
  refine ct_of (lv := [(0, Rf G 1), (1, I r), (2, I c), (3, I v)]) (by decide +kernel) (Nat.le_of_ble_eq_true rfl) rfl ?_
  refine r_aload_n dX5_setNumber_0 rfl rfl ?_
  refine r_getR (b := 2) dX5_setNumber_1 sh1 rfl (ci := 5) (j := 6) rfl (Nat.le_of_ble_eq_true rfl) ixX5 q50 rfl ?_
  refine r_iload_n dX5_setNumber_4 rfl rfl ?_
  refine r_bipush dX5_setNumber_5 rfl ?_
  refine r_imul dX5_setNumber_7 ?_
  refine r_iload_n dX5_setNumber_8 rfl rfl ?_
  refine r_iadd dX5_setNumber_9 ?_
  refine r_iload_n dX5_setNumber_10 rfl rfl ?_
  refine r_callSN (tX7_setIn G σ 2 ((r * 10) + c) v 100 (sh2) (by omega)) dX5_setNumber_11 svX7_setIn nw0 rfl ⟨Nat.le_of_ble_eq_true rfl, Nat.le_of_ble_eq_true rfl⟩ (Nat.le_of_ble_eq_true rfl) ⟨Nat.le_of_ble_eq_true rfl, Nat.le_of_ble_eq_true rfl⟩ ?_
  rintro _ _ ⟨rfl, rfl⟩
  exact r_vret dX5_setNumber_14 rfl (by rw [hP]; exact ⟨rfl, by rw [show r * 10 + c = 10 * r + c by omega]⟩)
set_option maxHeartbeats 1000000 in
set_option maxRecDepth 100000 in
theorem tX5_weightAt (G : GT) (σ : Sg) (i : Int) (h : 0 ≤ i ∧ i < 10) : Ct G mX5_weightAt 2 0 0 false (SH Ω) (SH Ω) [Rf G 1, I i] σ (fun rv sv => some (I (σ 3 i)) = rv ∧ σ = sv) := by
  obtain ⟨P, hP⟩ : ∃ P : Option Value → Sg → Prop, P = (fun rv sv => some (I (σ 3 i)) = rv ∧ σ = sv) := ⟨_, rfl⟩
  rw [← hP]
  refine ct_of (lv := [(0, Rf G 1), (1, I i)]) (by decide +kernel) (Nat.le_of_ble_eq_true rfl) rfl ?_
  refine r_aload_n dX5_weightAt_0 rfl rfl ?_
  refine r_getR (b := 3) dX5_weightAt_1 sh1 rfl (ci := 5) (j := 7) rfl (Nat.le_of_ble_eq_true rfl) ixX5 q51 rfl ?_
  refine r_iload_n dX5_weightAt_4 rfl rfl ?_
  refine r_callSN (tX7_numberIn G σ 3 i 10 (sh3) (by omega)) dX5_weightAt_5 svX7_numberIn nw8 rfl ⟨Nat.le_of_ble_eq_true rfl, Nat.le_of_ble_eq_true rfl⟩ (Nat.le_of_ble_eq_true rfl) ⟨Nat.le_of_ble_eq_true rfl, Nat.le_of_ble_eq_true rfl⟩ ?_
  rintro _ _ ⟨rfl, rfl⟩
  exact r_iret dX5_weightAt_8 rfl (by rw [hP]; exact ⟨rfl, rfl⟩)
set_option maxHeartbeats 1000000 in
set_option maxRecDepth 100000 in
theorem tX5_addWeight (G : GT) (σ : Sg) (w : Int) (h : 0 ≤ σ 1 2 ∧ σ 1 2 < 10) : Ct G mX5_addWeight 2 0 0 false (SH Ω) (SH Ω) [Rf G 1, I w] σ (fun rv sv => none = rv ∧ up (up σ 3 (σ 1 2) w) 1 2 (σ 1 2 + 1) = sv) := by
  obtain ⟨P, hP⟩ : ∃ P : Option Value → Sg → Prop, P = (fun rv sv => none = rv ∧ up (up σ 3 (σ 1 2) w) 1 2 (σ 1 2 + 1) = sv) := ⟨_, rfl⟩
  rw [← hP]
  refine ct_of (lv := [(0, Rf G 1), (1, I w)]) (by decide +kernel) (Nat.le_of_ble_eq_true rfl) rfl ?_
  refine r_aload_n dX5_addWeight_0 rfl rfl ?_
  refine r_getR (b := 3) dX5_addWeight_1 sh1 rfl (ci := 5) (j := 7) rfl (Nat.le_of_ble_eq_true rfl) ixX5 q51 rfl ?_
  refine r_aload_n dX5_addWeight_4 rfl rfl ?_
  refine r_getI (z := 2) dX5_addWeight_5 sh1 rfl (ci := 5) (j := 2) rfl (Nat.le_of_ble_eq_true rfl) rfl ixX5 q41 rfl (hv := rfl) ?_
  refine r_iload_n dX5_addWeight_8 rfl rfl ?_
  refine r_callSN (tX7_setIn G σ 3 (σ 1 2) w 10 (sh3) (by omega)) dX5_addWeight_9 svX7_setIn nw0 rfl ⟨Nat.le_of_ble_eq_true rfl, Nat.le_of_ble_eq_true rfl⟩ (Nat.le_of_ble_eq_true rfl) ⟨Nat.le_of_ble_eq_true rfl, Nat.le_of_ble_eq_true rfl⟩ ?_
  rintro _ _ ⟨rfl, rfl⟩
  refine r_aload_n dX5_addWeight_12 rfl rfl ?_
  refine r_dup dX5_addWeight_13 rfl ?_
  refine r_getI (z := 2) dX5_addWeight_14 sh1 rfl (ci := 5) (j := 2) rfl (Nat.le_of_ble_eq_true rfl) rfl ixX5 q41 rfl (hv := congrFun (up_ne (by decide)) 2) ?_
  refine r_iconst dX5_addWeight_17 ?_
  refine r_iadd dX5_addWeight_18 ?_
  refine r_putI (z := 2) tyX5 dX5_addWeight_19 sh1 rfl (ci := 5) (j := 2) rfl (Nat.le_of_ble_eq_true rfl) rfl tyX5_ok nmX5 ixX5 q41 rfl rfl rfl ?_
  exact r_vret dX5_addWeight_22 rfl (by rw [hP]; exact ⟨rfl, rfl⟩)
set_option maxHeartbeats 1000000 in
set_option maxRecDepth 100000 in
theorem tX5_weightsTogether (G : GT) (σ : Sg)  (hn : 1 ≤ σ 1 2 ∧ σ 1 2 ≤ 10) : Ct G mX5_weightsTogether 3 0 0 false (SH Ω) (SH Ω) [Rf G 1] σ (fun rv sv => some (I (wsum (σ 3) (σ 1 2).toNat)) = rv ∧ σ = sv) := by
  obtain ⟨P, hP⟩ : ∃ P : Option Value → Sg → Prop, P = (fun rv sv => some (I (wsum (σ 3) (σ 1 2).toNat)) = rv ∧ σ = sv) := ⟨_, rfl⟩
  rw [← hP]
  refine ct_of (lv := [(0, Rf G 1)]) (by decide +kernel) (Nat.le_of_ble_eq_true rfl) rfl ?_
  refine r_iconst dX5_weightsTogether_0 ?_
  refine r_istore_n (lv' := [(0, Rf G 1), (1, I 0)]) dX5_weightsTogether_1 rfl (Nat.le_of_ble_eq_true rfl) rfl ?_
  refine r_iconst dX5_weightsTogether_2 ?_
  refine r_istore_n (lv' := [(0, Rf G 1), (1, I 0), (2, I 0)]) dX5_weightsTogether_3 rfl (Nat.le_of_ble_eq_true rfl) rfl ?_
  have L4 : ∀ (mm : Nat) (t i : Int), (σ 1 2 - i).toNat = mm → (hi : 0 ≤ i ∧ i ≤ σ 1 2) → (ht : t = wsum (σ 3) i.toNat) → Rn G mX5_weightsTogether (rmD 3 0 0) E0 (Zn G false (SH Ω) P 0 0) false (SH Ω) 0 0 4 [(0, Rf G 1), (1, I t), (2, I i)] [] σ := by
    intro mm
    induction mm using Nat.strongRecOn with
    | _ mm ih4 =>
    intro t i hm4 hi ht
    refine r_iload_n dX5_weightsTogether_4 rfl rfl ?_
    refine r_aload_n dX5_weightsTogether_5 rfl rfl ?_
    refine r_getI (z := 2) dX5_weightsTogether_6 sh1 rfl (ci := 5) (j := 2) rfl (Nat.le_of_ble_eq_true rfl) rfl ixX5 q41 rfl (hv := rfl) ?_
    refine r_icmp_ge (tgt := 26) dX5_weightsTogether_9 (by decide) (by omega) (fun hb1 => ?_) (fun hb1 => ?_)
    · skip
      refine r_iload_n dX5_weightsTogether_26 rfl rfl ?_
      exact r_iret dX5_weightsTogether_27 rfl (by rw [hP]; exact ⟨by rw [ht, show i = σ 1 2 by omega], rfl⟩)
    · skip
      refine r_iload_n dX5_weightsTogether_12 rfl rfl ?_
      refine r_aload_n dX5_weightsTogether_13 rfl rfl ?_
      refine r_iload_n dX5_weightsTogether_14 rfl rfl ?_
      refine r_callV (tX5_weightAt G σ i (by omega)) dX5_weightsTogether_15 svX5_weightAt q360 sh1 (ci := 5) rfl rfl rfl ⟨Nat.le_of_ble_eq_true rfl, Nat.le_of_ble_eq_true rfl⟩ (Nat.le_of_ble_eq_true rfl) ⟨Nat.le_of_ble_eq_true rfl, Nat.le_of_ble_eq_true rfl⟩ ?_
      rintro _ _ ⟨rfl, rfl⟩
      refine r_iadd dX5_weightsTogether_18 ?_
      refine r_istore_n (lv' := [(0, Rf G 1), (1, I (t + (σ 3 i))), (2, I i)]) dX5_weightsTogether_19 rfl (Nat.le_of_ble_eq_true rfl) rfl ?_
      refine r_iinc (lv' := [(0, Rf G 1), (1, I (t + (σ 3 i))), (2, I (i + 1))]) dX5_weightsTogether_20 (Nat.le_of_ble_eq_true rfl) rfl rfl ?_
      refine r_goto (tgt := 4) dX5_weightsTogether_23 (by decide) ?_
      exact ih4 _ (by omega) _ (i + 1) rfl (by omega) (by rw [ht, wsum_s hi.1])
  exact L4 _ 0 0 rfl (by omega) (rfl)
