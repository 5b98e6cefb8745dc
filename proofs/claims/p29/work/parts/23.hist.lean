variable {Ω : List Ob}

/-- a State's three cells -/
def StId (Ω : List Ob) (a : Nat) : Prop := (SH Ω)[a]? = some (.inl (5, [.inl false, .inl false, .inl false, .inl false, .inl false, .inl false, .inr (some (a + 1)), .inr (some (a + 2))])) ∧ (SH Ω)[a + 1]? = some (.inr (.inl 100)) ∧ (SH Ω)[a + 2]? = some (.inr (.inl 10))
theorem StId_1 : StId Ω 1 := ⟨sh1, sh2, sh3⟩
theorem StId_39 : StId Ω 39 := ⟨sh39, sh40, sh41⟩
theorem StId_43 : StId Ω 43 := ⟨sh43, sh44, sh45⟩
theorem StId_sv {i : Int} (h : 0 ≤ i ∧ i < 6) : StId Ω (20 + 3 * i.toNat) := by
  have hi : i = 0 ∨ i = 1 ∨ i = 2 ∨ i = 3 ∨ i = 4 ∨ i = 5 := by omega
  rcases hi with rfl | rfl | rfl | rfl | rfl | rfl
  · exact ⟨sh20, sh21, sh22⟩
  · exact ⟨sh23, sh24, sh25⟩
  · exact ⟨sh26, sh27, sh28⟩
  · exact ⟨sh29, sh30, sh31⟩
  · exact ⟨sh32, sh33, sh34⟩
  · exact ⟨sh35, sh36, sh37⟩
theorem cp6 {σ : Sg} {a b : Nat} : up (up (up (up (up (up σ a 0 (σ b 0)) a 1 (σ b 1)) a 2 (σ b 2)) a 3 (σ b 3)) a 4 (σ b 4)) a 5 (σ b 5) = cp σ b a 6 := by
  funext o j
  by_cases h : o = a
  · subst h
    rw [cp_eq, up_at, up_at, up_at, up_at, up_at, up_at]
    by_cases h5 : j = 5
    · rw [if_pos h5, if_pos (by omega), h5]
    · rw [if_neg h5]
      by_cases h4 : j = 4
      · rw [if_pos h4, if_pos (by omega), h4]
      · rw [if_neg h4]
        by_cases h3 : j = 3
        · rw [if_pos h3, if_pos (by omega), h3]
        · rw [if_neg h3]
          by_cases h2 : j = 2
          · rw [if_pos h2, if_pos (by omega), h2]
          · rw [if_neg h2]
            by_cases h1 : j = 1
            · rw [if_pos h1, if_pos (by omega), h1]
            · rw [if_neg h1]
              by_cases h0 : j = 0
              · rw [if_pos h0, if_pos (by omega), h0]
              · rw [if_neg h0, if_neg (by omega)]
  · rw [cp_ne h, up_ne h, up_ne h, up_ne h, up_ne h, up_ne h, up_ne h]
def cpS (σ : Sg) (b a : Nat) : Sg := cp (cp (cp σ b a 6) (b + 1) (a + 1) 100) (b + 2) (a + 2) 10
/-- states as values: rows, columns, weights, counters, the cells, the weights (none outside) -/
abbrev St : Type := Int × Int × Int × Int × Int × Int × (Int → Int) × (Int → Int)
def rs (n : Int) (f : Int → Int) : Int → Int := fun i => if 0 ≤ i ∧ i < n then f i else 0
def stC (σ : Sg) (a : Nat) : St := (σ a 0, σ a 1, σ a 2, σ a 3, σ a 4, σ a 5, rs 100 (σ (a + 1)), rs (σ a 2) (σ (a + 2)))
theorem rs_c {n : Int} {f g : Int → Int} (h : ∀ i, 0 ≤ i → i < n → f i = g i) : rs n f = rs n g := by
  funext i
  unfold rs
  by_cases c : 0 ≤ i ∧ i < n
  · rw [if_pos c, if_pos c, h i c.1 c.2]
  · rw [if_neg c, if_neg c]
theorem stC_cpS {σ : Sg} {a b : Nat} (h : b + 3 ≤ a ∨ a + 3 ≤ b) (hn : σ b 2 ≤ 10) : stC (cpS σ b a) a = stC σ b := by
  have e0 : ∀ j : Int, 0 ≤ j → j < 6 → cpS σ b a a j = σ b j := fun j h1 h2 => by unfold cpS; rw [cp_ne (by omega), cp_ne (by omega), cp_eq, if_pos ⟨h1, h2⟩]
  have e1 : ∀ j : Int, 0 ≤ j → j < 100 → cpS σ b a (a + 1) j = σ (b + 1) j := fun j h1 h2 => by unfold cpS; rw [cp_ne (by omega), cp_eq, if_pos ⟨h1, h2⟩, cp_ne (by omega)]
  have e2 : ∀ j : Int, 0 ≤ j → j < 10 → cpS σ b a (a + 2) j = σ (b + 2) j := fun j h1 h2 => by unfold cpS; rw [cp_eq, if_pos ⟨h1, h2⟩, cp_ne (by omega), cp_ne (by omega)]
  unfold stC
  rw [e0 0 (by omega) (by omega), e0 1 (by omega) (by omega), e0 2 (by omega) (by omega), e0 3 (by omega) (by omega), e0 4 (by omega) (by omega), e0 5 (by omega) (by omega), rs_c (fun i h1 h2 => e1 i h1 h2), rs_c (fun i h1 h2 => e2 i h1 (by omega))]
theorem cpS_ne {σ : Sg} {a b o : Nat} (h : o < a ∨ a + 3 ≤ o) : cpS σ b a o = σ o := by unfold cpS; rw [cp_ne (by omega), cp_ne (by omega), cp_ne (by omega)]
theorem stC_c {σ τ : Sg} {a : Nat} (h0 : σ a = τ a) (h1 : σ (a + 1) = τ (a + 1)) (h2 : σ (a + 2) = τ (a + 2)) : stC σ a = stC τ a := by unfold stC; rw [h0, h1, h2]
/-- the saved states, the oldest one first -/
def hiC (σ : Sg) : List St := (List.range (σ 18 0).toNat).map (fun (r : Nat) => stC σ (20 + 3 * ((σ 18 1 + (r : Int)) % 6).toNat))
def pushH (l : List St) (x : St) : List St := (if l.length = 6 then l.tail else l) ++ [x]
def HistOK (σ : Sg) : Prop := 0 ≤ σ 18 0 ∧ σ 18 0 ≤ 6 ∧ 0 ≤ σ 18 1 ∧ σ 18 1 < 6
def SaveP (σ sv : Sg) : Prop := (∀ a, a ≠ 18 → (a < 20 ∨ 38 ≤ a) → sv a = σ a) ∧ HistOK sv ∧ hiC sv = pushH (hiC σ) (stC σ 1)

set_option maxHeartbeats 1000000 in
set_option maxRecDepth 100000 in
theorem tX5_copyFrom (G : GT) (σ : Sg) (a b : Nat) (ha : StId Ω a) (hb : StId Ω b) (hab : b + 3 ≤ a ∨ a + 3 ≤ b) : Ct G mX5_copyFrom 2 0 0 false (SH Ω) (SH Ω) [Rf G a, Rf G b] σ (fun rv sv => none = rv ∧ cpS σ b a = sv) := by
  obtain ⟨P, hP⟩ : ∃ P : Option Value → Sg → Prop, P = (fun rv sv => none = rv ∧ cpS σ b a = sv) := ⟨_, rfl⟩
  rw [← hP]
  refine ct_of (lv := [(0, Rf G a), (1, Rf G b)]) (by decide +kernel) (Nat.le_of_ble_eq_true rfl) rfl ?_
  refine r_aload_n dX5_copyFrom_0 rfl rfl ?_
  refine r_ifnonnull (tgt := 5) dX5_copyFrom_1 (by decide) ?_
  refine r_aload_n dX5_copyFrom_5 rfl rfl ?_
  refine r_aload_n dX5_copyFrom_6 rfl rfl ?_
  refine r_getI (z := 0) dX5_copyFrom_7 hb.1 rfl (ci := 5) (j := 0) rfl (Nat.le_of_ble_eq_true rfl) rfl ixX5 q33 rfl (hv := rfl) ?_
  refine r_putI (z := 0) tyX5 dX5_copyFrom_10 ha.1 rfl (ci := 5) (j := 0) rfl (Nat.le_of_ble_eq_true rfl) rfl tyX5_ok nmX5 ixX5 q33 rfl rfl rfl ?_
  refine r_aload_n dX5_copyFrom_13 rfl rfl ?_
  refine r_aload_n dX5_copyFrom_14 rfl rfl ?_
  refine r_getI (z := 1) dX5_copyFrom_15 hb.1 rfl (ci := 5) (j := 1) rfl (Nat.le_of_ble_eq_true rfl) rfl ixX5 q37 rfl (hv := congrFun (up_ne (by omega)) 1) ?_
  refine r_putI (z := 1) tyX5 dX5_copyFrom_18 ha.1 rfl (ci := 5) (j := 1) rfl (Nat.le_of_ble_eq_true rfl) rfl tyX5_ok nmX5 ixX5 q37 rfl rfl rfl ?_
  refine r_aload_n dX5_copyFrom_21 rfl rfl ?_
  refine r_aload_n dX5_copyFrom_22 rfl rfl ?_
  refine r_getI (z := 2) dX5_copyFrom_23 hb.1 rfl (ci := 5) (j := 2) rfl (Nat.le_of_ble_eq_true rfl) rfl ixX5 q41 rfl (hv := (congrFun (up_ne (by omega)) 2).trans (congrFun (up_ne (by omega)) 2)) ?_
  refine r_putI (z := 2) tyX5 dX5_copyFrom_26 ha.1 rfl (ci := 5) (j := 2) rfl (Nat.le_of_ble_eq_true rfl) rfl tyX5_ok nmX5 ixX5 q41 rfl rfl rfl ?_
  refine r_aload_n dX5_copyFrom_29 rfl rfl ?_
  refine r_aload_n dX5_copyFrom_30 rfl rfl ?_
  refine r_getI (z := 3) dX5_copyFrom_31 hb.1 rfl (ci := 5) (j := 3) rfl (Nat.le_of_ble_eq_true rfl) rfl ixX5 q44 rfl (hv := (congrFun (up_ne (by omega)) 3).trans ((congrFun (up_ne (by omega)) 3).trans (congrFun (up_ne (by omega)) 3))) ?_
  refine r_putI (z := 3) tyX5 dX5_copyFrom_34 ha.1 rfl (ci := 5) (j := 3) rfl (Nat.le_of_ble_eq_true rfl) rfl tyX5_ok nmX5 ixX5 q44 rfl rfl rfl ?_
  refine r_aload_n dX5_copyFrom_37 rfl rfl ?_
  refine r_aload_n dX5_copyFrom_38 rfl rfl ?_
  refine r_getI (z := 4) dX5_copyFrom_39 hb.1 rfl (ci := 5) (j := 4) rfl (Nat.le_of_ble_eq_true rfl) rfl ixX5 q46 rfl (hv := (congrFun (up_ne (by omega)) 4).trans ((congrFun (up_ne (by omega)) 4).trans ((congrFun (up_ne (by omega)) 4).trans (congrFun (up_ne (by omega)) 4)))) ?_
  refine r_putI (z := 4) tyX5 dX5_copyFrom_42 ha.1 rfl (ci := 5) (j := 4) rfl (Nat.le_of_ble_eq_true rfl) rfl tyX5_ok nmX5 ixX5 q46 rfl rfl rfl ?_
  refine r_aload_n dX5_copyFrom_45 rfl rfl ?_
  refine r_aload_n dX5_copyFrom_46 rfl rfl ?_
  refine r_getI (z := 5) dX5_copyFrom_47 hb.1 rfl (ci := 5) (j := 5) rfl (Nat.le_of_ble_eq_true rfl) rfl ixX5 q48 rfl (hv := (congrFun (up_ne (by omega)) 5).trans ((congrFun (up_ne (by omega)) 5).trans ((congrFun (up_ne (by omega)) 5).trans ((congrFun (up_ne (by omega)) 5).trans (congrFun (up_ne (by omega)) 5))))) ?_
  refine r_putI (z := 5) tyX5 dX5_copyFrom_50 ha.1 rfl (ci := 5) (j := 5) rfl (Nat.le_of_ble_eq_true rfl) rfl tyX5_ok nmX5 ixX5 q48 rfl rfl rfl ?_
  refine r_aload_n dX5_copyFrom_53 rfl rfl ?_
  refine r_getR (b := b + 1) dX5_copyFrom_54 hb.1 rfl (ci := 5) (j := 6) rfl (Nat.le_of_ble_eq_true rfl) ixX5 q50 rfl ?_
  refine r_aload_n dX5_copyFrom_57 rfl rfl ?_
  refine r_getR (b := a + 1) dX5_copyFrom_58 ha.1 rfl (ci := 5) (j := 6) rfl (Nat.le_of_ble_eq_true rfl) ixX5 q50 rfl ?_
  refine r_callSN (tX7_copyAll G (up (up (up (up (up (up σ a 0 (σ b 0)) a 1 (σ b 1)) a 2 (σ b 2)) a 3 (σ b 3)) a 4 (σ b 4)) a 5 (σ b 5)) (b + 1) (a + 1) 100 (hb.2.1) (ha.2.1) (by omega) (by omega)) dX5_copyFrom_61 svX7_copyAll nw4 rfl ⟨Nat.le_of_ble_eq_true rfl, Nat.le_of_ble_eq_true rfl⟩ (Nat.le_of_ble_eq_true rfl) ⟨Nat.le_of_ble_eq_true rfl, Nat.le_of_ble_eq_true rfl⟩ ?_
  rintro _ _ ⟨rfl, rfl⟩
  refine r_aload_n dX5_copyFrom_64 rfl rfl ?_
  refine r_getR (b := b + 2) dX5_copyFrom_65 hb.1 rfl (ci := 5) (j := 7) rfl (Nat.le_of_ble_eq_true rfl) ixX5 q51 rfl ?_
  refine r_aload_n dX5_copyFrom_68 rfl rfl ?_
  refine r_getR (b := a + 2) dX5_copyFrom_69 ha.1 rfl (ci := 5) (j := 7) rfl (Nat.le_of_ble_eq_true rfl) ixX5 q51 rfl ?_
  refine r_callSN (tX7_copyAll G (cp (up (up (up (up (up (up σ a 0 (σ b 0)) a 1 (σ b 1)) a 2 (σ b 2)) a 3 (σ b 3)) a 4 (σ b 4)) a 5 (σ b 5)) (b + 1) (a + 1) (100 : Int)) (b + 2) (a + 2) 10 (hb.2.2) (ha.2.2) (by omega) (by omega)) dX5_copyFrom_72 svX7_copyAll nw4 rfl ⟨Nat.le_of_ble_eq_true rfl, Nat.le_of_ble_eq_true rfl⟩ (Nat.le_of_ble_eq_true rfl) ⟨Nat.le_of_ble_eq_true rfl, Nat.le_of_ble_eq_true rfl⟩ ?_
  rintro _ _ ⟨rfl, rfl⟩
  exact r_vret dX5_copyFrom_75 rfl (by rw [hP]; exact ⟨rfl, by rw [cp6]; rfl⟩)
set_option maxHeartbeats 1000000 in
set_option maxRecDepth 100000 in
theorem tX2_stateAt (G : GT) (σ : Sg) (k : Int) (h : 0 ≤ k ∧ k < 6) (ho : 0 ≤ σ 18 1 ∧ σ 18 1 < 6) : Ct G mX2_stateAt 1 0 0 false (SH Ω) (SH Ω) [Rf G 18, I k] σ (fun rv sv => some (Rf G (20 + 3 * ((σ 18 1 + k) % 6).toNat)) = rv ∧ σ = sv) := by
  obtain ⟨P, hP⟩ : ∃ P : Option Value → Sg → Prop, P = (fun rv sv => some (Rf G (20 + 3 * ((σ 18 1 + k) % 6).toNat)) = rv ∧ σ = sv) := ⟨_, rfl⟩
  rw [← hP]
  refine ct_of (lv := [(0, Rf G 18), (1, I k)]) (by decide +kernel) (Nat.le_of_ble_eq_true rfl) rfl ?_
  refine r_aload_n dX2_stateAt_0 rfl rfl ?_
  refine r_getI (z := 1) dX2_stateAt_1 sh18 rfl (ci := 2) (j := 1) rfl (Nat.le_of_ble_eq_true rfl) rfl ixX2 q117 rfl (hv := rfl) ?_
  refine r_iload_n dX2_stateAt_4 rfl rfl ?_
  refine r_iadd dX2_stateAt_5 ?_
  refine r_bipush dX2_stateAt_6 rfl ?_
  refine r_irem dX2_stateAt_8 (by omega) ?_
  refine r_istore_n (lv' := [(0, Rf G 18), (1, I k), (2, I (((σ 18 1) + k) % 6))]) dX2_stateAt_9 rfl (Nat.le_of_ble_eq_true rfl) rfl ?_
  refine r_iload_n dX2_stateAt_10 rfl rfl ?_
  refine r_if_lt (tgt := 23) dX2_stateAt_11 (by decide) (by omega) (fun hb1 => ?_) (fun hb1 => ?_)
  · skip
    exact absurd hb1 (by omega)
  · skip
    refine r_iload_n dX2_stateAt_14 rfl rfl ?_
    refine r_aload_n dX2_stateAt_15 rfl rfl ?_
    refine r_getR (b := 19) dX2_stateAt_16 sh18 rfl (ci := 2) (j := 2) rfl (Nat.le_of_ble_eq_true rfl) ixX2 q118 rfl ?_
    refine r_alenq dX2_stateAt_19 sh19 ?_
    refine r_icmp_lt (tgt := 27) dX2_stateAt_20 (by decide) (by omega) (fun hb2 => ?_) (fun hb2 => ?_)
    · skip
      refine r_aload_n dX2_stateAt_27 rfl rfl ?_
      refine r_getR (b := 19) dX2_stateAt_28 sh18 rfl (ci := 2) (j := 2) rfl (Nat.le_of_ble_eq_true rfl) ixX2 q118 rfl ?_
      refine r_iload_n dX2_stateAt_31 rfl rfl ?_
      refine r_aald (b := 20 + 3 * ((σ 18 1 + k) % 6).toNat) dX2_stateAt_32 sh19 (by omega) (by unfold svd; rw [show Nat.blt ((σ 18 1 + k) % 6).toNat 6 = true by rw [Nat.blt_eq]; omega]; rfl) ?_
      exact r_aret dX2_stateAt_33 rfl (by rw [hP]; exact ⟨rfl, rfl⟩)
    · skip
      exact absurd hb2 (by omega)
set_option maxHeartbeats 1000000 in
set_option maxRecDepth 100000 in
theorem tX2_latest (G : GT) (σ : Sg)  (h : 1 ≤ σ 18 0 ∧ σ 18 0 ≤ 6) (ho : 0 ≤ σ 18 1 ∧ σ 18 1 < 6) : Ct G mX2_latest 2 0 0 false (SH Ω) (SH Ω) [Rf G 18] σ (fun rv sv => some (Rf G (20 + 3 * ((σ 18 1 + (σ 18 0 - 1)) % 6).toNat)) = rv ∧ σ = sv) := by
  obtain ⟨P, hP⟩ : ∃ P : Option Value → Sg → Prop, P = (fun rv sv => some (Rf G (20 + 3 * ((σ 18 1 + (σ 18 0 - 1)) % 6).toNat)) = rv ∧ σ = sv) := ⟨_, rfl⟩
  rw [← hP]
  refine ct_of (lv := [(0, Rf G 18)]) (by decide +kernel) (Nat.le_of_ble_eq_true rfl) rfl ?_
  refine r_aload_n dX2_latest_0 rfl rfl ?_
  refine r_aload_n dX2_latest_1 rfl rfl ?_
  refine r_getI (z := 0) dX2_latest_2 sh18 rfl (ci := 2) (j := 0) rfl (Nat.le_of_ble_eq_true rfl) rfl ixX2 q115 rfl (hv := rfl) ?_
  refine r_iconst dX2_latest_5 ?_
  refine r_isub dX2_latest_6 ?_
  refine r_callV (tX2_stateAt G σ ((σ 18 0) - 1) (by omega) (by omega)) dX2_latest_7 svX2_stateAt q199 sh18 (ci := 2) rfl rfl rfl ⟨Nat.le_of_ble_eq_true rfl, Nat.le_of_ble_eq_true rfl⟩ (Nat.le_of_ble_eq_true rfl) ⟨Nat.le_of_ble_eq_true rfl, Nat.le_of_ble_eq_true rfl⟩ ?_
  rintro _ _ ⟨rfl, rfl⟩
  exact r_aret dX2_latest_10 rfl (by rw [hP]; exact ⟨rfl, rfl⟩)
set_option maxHeartbeats 1000000 in
set_option maxRecDepth 100000 in
theorem tX4_fillFrom38 (G : GT) (σ : Sg)  : Ct G mX4_fillFrom 3 0 0 false (SH Ω) (SH Ω) [Rf G 38, Rf G 1] σ (fun rv sv => none = rv ∧ up (cpS σ 1 39) 38 0 1 = sv) := by
  obtain ⟨P, hP⟩ : ∃ P : Option Value → Sg → Prop, P = (fun rv sv => none = rv ∧ up (cpS σ 1 39) 38 0 1 = sv) := ⟨_, rfl⟩
  rw [← hP]
  refine ct_of (lv := [(0, Rf G 38), (1, Rf G 1)]) (by decide +kernel) (Nat.le_of_ble_eq_true rfl) rfl ?_
  refine r_aload_n dX4_fillFrom_0 rfl rfl ?_
  refine r_getR (b := 39) dX4_fillFrom_1 sh38 rfl (ci := 4) (j := 1) rfl (Nat.le_of_ble_eq_true rfl) ixX4 q129 rfl ?_
  refine r_aload_n dX4_fillFrom_4 rfl rfl ?_
  refine r_callV (tX5_copyFrom G σ 39 1 (StId_39) (StId_1) (by omega)) dX4_fillFrom_5 svX5_copyFrom q335 sh39 (ci := 5) rfl rfl rfl ⟨Nat.le_of_ble_eq_true rfl, Nat.le_of_ble_eq_true rfl⟩ (Nat.le_of_ble_eq_true rfl) ⟨Nat.le_of_ble_eq_true rfl, Nat.le_of_ble_eq_true rfl⟩ ?_
  rintro _ _ ⟨rfl, rfl⟩
  refine r_aload_n dX4_fillFrom_8 rfl rfl ?_
  refine r_iconst dX4_fillFrom_9 ?_
  refine r_putZ (z := 0) tyX4 dX4_fillFrom_10 sh38 rfl (ci := 4) (j := 0) rfl (Nat.le_of_ble_eq_true rfl) rfl tyX4_ok nmX4 ixX4 q127 rfl rfl rfl rfl rfl ?_
  exact r_vret dX4_fillFrom_13 rfl (by rw [hP]; exact ⟨rfl, rfl⟩)
set_option maxHeartbeats 1000000 in
set_option maxRecDepth 100000 in
theorem tX4_fillFrom42 (G : GT) (σ : Sg)  : Ct G mX4_fillFrom 3 0 0 false (SH Ω) (SH Ω) [Rf G 42, Rf G 1] σ (fun rv sv => none = rv ∧ up (cpS σ 1 43) 42 0 1 = sv) := by
  obtain ⟨P, hP⟩ : ∃ P : Option Value → Sg → Prop, P = (fun rv sv => none = rv ∧ up (cpS σ 1 43) 42 0 1 = sv) := ⟨_, rfl⟩
  rw [← hP]
  refine ct_of (lv := [(0, Rf G 42), (1, Rf G 1)]) (by decide +kernel) (Nat.le_of_ble_eq_true rfl) rfl ?_
  refine r_aload_n dX4_fillFrom_0 rfl rfl ?_
  refine r_getR (b := 43) dX4_fillFrom_1 sh42 rfl (ci := 4) (j := 1) rfl (Nat.le_of_ble_eq_true rfl) ixX4 q129 rfl ?_
  refine r_aload_n dX4_fillFrom_4 rfl rfl ?_
  refine r_callV (tX5_copyFrom G σ 43 1 (StId_43) (StId_1) (by omega)) dX4_fillFrom_5 svX5_copyFrom q335 sh43 (ci := 5) rfl rfl rfl ⟨Nat.le_of_ble_eq_true rfl, Nat.le_of_ble_eq_true rfl⟩ (Nat.le_of_ble_eq_true rfl) ⟨Nat.le_of_ble_eq_true rfl, Nat.le_of_ble_eq_true rfl⟩ ?_
  rintro _ _ ⟨rfl, rfl⟩
  refine r_aload_n dX4_fillFrom_8 rfl rfl ?_
  refine r_iconst dX4_fillFrom_9 ?_
  refine r_putZ (z := 0) tyX4 dX4_fillFrom_10 sh42 rfl (ci := 4) (j := 0) rfl (Nat.le_of_ble_eq_true rfl) rfl tyX4_ok nmX4 ixX4 q127 rfl rfl rfl rfl rfl ?_
  exact r_vret dX4_fillFrom_13 rfl (by rw [hP]; exact ⟨rfl, rfl⟩)

theorem hiC_len {σ : Sg} : (hiC σ).length = (σ 18 0).toNat := by simp [hiC]
theorem tail_map_range {α : Type} (f : Nat → α) : ((List.range 6).map f).tail = (List.range 5).map (fun r => f (r + 1)) := rfl
/-- behind the copy: the world of the history -/
theorem save_fin {σ s : Sg} {c o t : Int} (hs : ∀ a, a ≠ 18 → s a = σ a) (hc : 0 ≤ c ∧ c < 6) (ho : 0 ≤ o ∧ o < 6) (h18 : s 18 0 = c ∧ s 18 1 = o) (hn : σ 1 2 ≤ 10) (hx : t = c + 1)
    (hl : (List.range c.toNat).map (fun (r : Nat) => stC σ (20 + 3 * ((o + (r : Int)) % 6).toNat)) = if (hiC σ).length = 6 then (hiC σ).tail else hiC σ) :
    SaveP σ (up (cpS s 1 (20 + 3 * ((o + c) % 6).toNat)) 18 0 t) := by
  subst hx
  obtain ⟨T, hT⟩ : ∃ T, T = 20 + 3 * ((o + c) % 6).toNat := ⟨_, rfl⟩
  rw [← hT]
  have hTb : 20 ≤ T ∧ T < 38 := by omega
  have fr : ∀ a, a ≠ 18 → (a < T ∨ T + 3 ≤ a) → up (cpS s 1 T) 18 0 (c + 1) a = σ a := fun a h1 h2 => by rw [up_ne h1, cpS_ne h2, hs a h1]
  have e0 : up (cpS s 1 T) 18 0 (c + 1) 18 0 = c + 1 := up_eq
  have e1 : up (cpS s 1 T) 18 0 (c + 1) 18 1 = o := by rw [up_nj (by decide), cpS_ne (by omega), h18.2]
  refine ⟨fun a h1 h2 => fr a h1 (by omega), ⟨by rw [e0]; omega, by rw [e0]; omega, by rw [e1]; omega, by rw [e1]; omega⟩, ?_⟩
  unfold pushH
  rw [← hl]
  unfold hiC
  rw [e0, e1, show (c + 1).toNat = c.toNat + 1 by omega, List.range_succ, List.map_append]
  congr 1
  · apply List.map_congr_left
    intro r hr
    have hr := List.mem_range.mp hr
    apply stC_c
    · exact fr _ (by omega) (by omega)
    · exact fr _ (by omega) (by omega)
    · exact fr _ (by omega) (by omega)
  · rw [List.map_singleton, show ((c.toNat : Nat) : Int) = c by omega, ← hT]
    congr 1
    have h1 := stC_cpS (σ := s) (a := T) (b := 1) (by omega) (by rw [hs 1 (by decide)]; exact hn)
    have h2 : stC s 1 = stC σ 1 := stC_c (hs 1 (by decide)) (hs 2 (by decide)) (hs 3 (by decide))
    rw [← h2, ← h1]
    exact stC_c (by rw [up_ne (by omega)]) (by rw [up_ne (by omega)]) (by rw [up_ne (by omega)])

set_option maxHeartbeats 1000000 in
set_option maxRecDepth 100000 in
theorem tX2_save (G : GT) (σ : Sg)  (hh : HistOK σ) (hn : σ 1 2 ≤ 10) : Ct G mX2_save 3 0 0 false (SH Ω) (SH Ω) [Rf G 18, Rf G 1] σ (fun rv sv => none = rv ∧ SaveP σ sv) := by
  obtain ⟨P, hP⟩ : ∃ P : Option Value → Sg → Prop, P = (fun rv sv => none = rv ∧ SaveP σ sv) := ⟨_, rfl⟩
  rw [← hP]
  refine ct_of (lv := [(0, Rf G 18), (1, Rf G 1)]) (by decide +kernel) (Nat.le_of_ble_eq_true rfl) rfl ?_
  obtain ⟨c1, c2, o1, o2⟩ := hh
  refine r_aload_n dX2_save_0 rfl rfl ?_
  refine r_getI (z := 0) dX2_save_1 sh18 rfl (ci := 2) (j := 0) rfl (Nat.le_of_ble_eq_true rfl) rfl ixX2 q115 rfl (hv := rfl) ?_
  refine r_bipush dX2_save_4 rfl ?_
  refine r_icmp_ne (tgt := 32) dX2_save_6 (by decide) (by omega) (fun hb1 => ?_) (fun hb1 => ?_)
  · skip
    obtain ⟨s, hs⟩ : ∃ z : Sg, z = σ := ⟨_, rfl⟩
    rw [← hs]
    obtain ⟨c, o, hc, ho, h18, hl, hfr⟩ : ∃ c o : Int, (0 ≤ c ∧ c < 6) ∧ (0 ≤ o ∧ o < 6) ∧ (s 18 0 = c ∧ s 18 1 = o) ∧ ((List.range c.toNat).map (fun (r : Nat) => stC σ (20 + 3 * ((o + (r : Int)) % 6).toNat)) = if (hiC σ).length = 6 then (hiC σ).tail else hiC σ) ∧ (∀ a, a ≠ 18 → s a = σ a) := ⟨σ 18 0, σ 18 1, by omega, by omega, by rw [hs]; exact ⟨rfl, rfl⟩, by rw [if_neg (by rw [hiC_len]; omega)]; rfl, fun a ha => by rw [hs]⟩
    refine r_aload_n dX2_save_32 rfl rfl ?_
    refine r_aload_n dX2_save_33 rfl rfl ?_
    refine r_getI (z := 0) dX2_save_34 sh18 rfl (ci := 2) (j := 0) rfl (Nat.le_of_ble_eq_true rfl) rfl ixX2 q115 rfl (hv := h18.1) ?_
    refine r_callV (tX2_stateAt G s c (by omega) (by rw [h18.2]; omega)) dX2_save_37 svX2_stateAt q199 sh18 (ci := 2) rfl rfl rfl ⟨Nat.le_of_ble_eq_true rfl, Nat.le_of_ble_eq_true rfl⟩ (Nat.le_of_ble_eq_true rfl) ⟨Nat.le_of_ble_eq_true rfl, Nat.le_of_ble_eq_true rfl⟩ ?_
    rintro _ _ ⟨rfl, rfl⟩
    rw [h18.2]
    refine r_astore_n (lv' := [(0, Rf G 18), (1, Rf G 1), (2, Rf G (20 + 3 * ((o + c) % 6).toNat))]) dX2_save_40 rfl (Nat.le_of_ble_eq_true rfl) rfl ?_
    refine r_aload_n dX2_save_41 rfl rfl ?_
    refine r_ifnull dX2_save_42 ?_
    refine r_aload_n dX2_save_45 rfl rfl ?_
    refine r_aload_n dX2_save_46 rfl rfl ?_
    refine r_callV (tX5_copyFrom G s (20 + 3 * ((o + c) % 6).toNat) 1 (StId_sv (by omega)) (StId_1) (by omega)) dX2_save_47 svX5_copyFrom q202 (StId_sv (i := (o + c) % 6) (by omega)).1 (ci := 5) rfl rfl rfl ⟨Nat.le_of_ble_eq_true rfl, Nat.le_of_ble_eq_true rfl⟩ (Nat.le_of_ble_eq_true rfl) ⟨Nat.le_of_ble_eq_true rfl, Nat.le_of_ble_eq_true rfl⟩ ?_
    rintro _ _ ⟨rfl, rfl⟩
    have hz : cpS s 1 (20 + 3 * ((o + c) % 6).toNat) 18 0 = c := by rw [cpS_ne (by omega)]; exact h18.1
    refine r_aload_n dX2_save_50 rfl rfl ?_
    refine r_dup dX2_save_51 rfl ?_
    refine r_getI (z := 0) dX2_save_52 sh18 rfl (ci := 2) (j := 0) rfl (Nat.le_of_ble_eq_true rfl) rfl ixX2 q115 rfl (hv := hz) ?_
    refine r_iconst dX2_save_55 ?_
    refine r_iadd dX2_save_56 ?_
    refine r_putI (z := 0) tyX2 dX2_save_57 sh18 rfl (ci := 2) (j := 0) rfl (Nat.le_of_ble_eq_true rfl) rfl tyX2_ok nmX2 ixX2 q115 rfl rfl rfl ?_
    exact r_vret dX2_save_60 rfl (by rw [hP]; exact ⟨rfl, save_fin hfr hc ho h18 hn rfl hl⟩)
  · skip
    refine r_aload_n dX2_save_9 rfl rfl ?_
    refine r_aload_n dX2_save_10 rfl rfl ?_
    refine r_getI (z := 1) dX2_save_11 sh18 rfl (ci := 2) (j := 1) rfl (Nat.le_of_ble_eq_true rfl) rfl ixX2 q117 rfl (hv := rfl) ?_
    refine r_iconst dX2_save_14 ?_
    refine r_iadd dX2_save_15 ?_
    refine r_bipush dX2_save_16 rfl ?_
    refine r_irem dX2_save_18 (by omega) ?_
    refine r_putI (z := 1) tyX2 dX2_save_19 sh18 rfl (ci := 2) (j := 1) rfl (Nat.le_of_ble_eq_true rfl) rfl tyX2_ok nmX2 ixX2 q117 rfl rfl rfl ?_
    refine r_aload_n dX2_save_22 rfl rfl ?_
    refine r_dup dX2_save_23 rfl ?_
    refine r_getI (z := 0) dX2_save_24 sh18 rfl (ci := 2) (j := 0) rfl (Nat.le_of_ble_eq_true rfl) rfl ixX2 q115 rfl (hv := up_nj (by decide)) ?_
    refine r_iconst dX2_save_27 ?_
    refine r_isub dX2_save_28 ?_
    refine r_putI (z := 0) tyX2 dX2_save_29 sh18 rfl (ci := 2) (j := 0) rfl (Nat.le_of_ble_eq_true rfl) rfl tyX2_ok nmX2 ixX2 q115 rfl rfl rfl ?_
    obtain ⟨s, hs⟩ : ∃ z : Sg, z = up (up σ 18 1 (((σ 18 1) + 1) % 6)) 18 0 ((σ 18 0) - 1) := ⟨_, rfl⟩
    rw [← hs]
    obtain ⟨c, o, hc, ho, h18, hl, hfr⟩ : ∃ c o : Int, (0 ≤ c ∧ c < 6) ∧ (0 ≤ o ∧ o < 6) ∧ (s 18 0 = c ∧ s 18 1 = o) ∧ ((List.range c.toNat).map (fun (r : Nat) => stC σ (20 + 3 * ((o + (r : Int)) % 6).toNat)) = if (hiC σ).length = 6 then (hiC σ).tail else hiC σ) ∧ (∀ a, a ≠ 18 → s a = σ a) := ⟨σ 18 0 - 1, (σ 18 1 + 1) % 6, by omega, by omega, by rw [hs]; exact ⟨up_eq, by rw [up_nj (by decide), up_eq]⟩, by rw [if_pos (by rw [hiC_len]; omega)]; unfold hiC; rw [show (σ 18 0).toNat = 6 by omega, show (σ 18 0 - 1).toNat = 5 by omega, tail_map_range]; apply List.map_congr_left; intro r _; congr 3; omega, fun a ha => by rw [hs, up_ne ha, up_ne ha]⟩
    refine r_aload_n dX2_save_32 rfl rfl ?_
    refine r_aload_n dX2_save_33 rfl rfl ?_
    refine r_getI (z := 0) dX2_save_34 sh18 rfl (ci := 2) (j := 0) rfl (Nat.le_of_ble_eq_true rfl) rfl ixX2 q115 rfl (hv := h18.1) ?_
    refine r_callV (tX2_stateAt G s c (by omega) (by rw [h18.2]; omega)) dX2_save_37 svX2_stateAt q199 sh18 (ci := 2) rfl rfl rfl ⟨Nat.le_of_ble_eq_true rfl, Nat.le_of_ble_eq_true rfl⟩ (Nat.le_of_ble_eq_true rfl) ⟨Nat.le_of_ble_eq_true rfl, Nat.le_of_ble_eq_true rfl⟩ ?_
    rintro _ _ ⟨rfl, rfl⟩
    rw [h18.2]
    refine r_astore_n (lv' := [(0, Rf G 18), (1, Rf G 1), (2, Rf G (20 + 3 * ((o + c) % 6).toNat))]) dX2_save_40 rfl (Nat.le_of_ble_eq_true rfl) rfl ?_
    refine r_aload_n dX2_save_41 rfl rfl ?_
    refine r_ifnull dX2_save_42 ?_
    refine r_aload_n dX2_save_45 rfl rfl ?_
    refine r_aload_n dX2_save_46 rfl rfl ?_
    refine r_callV (tX5_copyFrom G s (20 + 3 * ((o + c) % 6).toNat) 1 (StId_sv (by omega)) (StId_1) (by omega)) dX2_save_47 svX5_copyFrom q202 (StId_sv (i := (o + c) % 6) (by omega)).1 (ci := 5) rfl rfl rfl ⟨Nat.le_of_ble_eq_true rfl, Nat.le_of_ble_eq_true rfl⟩ (Nat.le_of_ble_eq_true rfl) ⟨Nat.le_of_ble_eq_true rfl, Nat.le_of_ble_eq_true rfl⟩ ?_
    rintro _ _ ⟨rfl, rfl⟩
    have hz : cpS s 1 (20 + 3 * ((o + c) % 6).toNat) 18 0 = c := by rw [cpS_ne (by omega)]; exact h18.1
    refine r_aload_n dX2_save_50 rfl rfl ?_
    refine r_dup dX2_save_51 rfl ?_
    refine r_getI (z := 0) dX2_save_52 sh18 rfl (ci := 2) (j := 0) rfl (Nat.le_of_ble_eq_true rfl) rfl ixX2 q115 rfl (hv := hz) ?_
    refine r_iconst dX2_save_55 ?_
    refine r_iadd dX2_save_56 ?_
    refine r_putI (z := 0) tyX2 dX2_save_57 sh18 rfl (ci := 2) (j := 0) rfl (Nat.le_of_ble_eq_true rfl) rfl tyX2_ok nmX2 ixX2 q115 rfl rfl rfl ?_
    exact r_vret dX2_save_60 rfl (by rw [hP]; exact ⟨rfl, save_fin hfr hc ho h18 hn rfl hl⟩)
