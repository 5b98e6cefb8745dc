variable {Ω : List Ob}

/-- a row and two columns tell against the rule -/
abbrev Ag (T : Int → Int) (r c d : Int) : Prop := T (10 * r + d) < T (10 * r + c) ∧ T (10 * (r + 1) + c) ≤ T (10 * (r + 1) + d)
abbrev Vk (C : Int) (T : Int → Int) (k : Int) : Prop := k / 10 % 10 < k % 10 ∧ k % 10 < C ∧ Ag T (k / 100) (k / 10 % 10) (k % 10)
def wcnt (C : Int) (T : Int → Int) : Nat → Int
  | 0 => 0
  | k + 1 => wcnt C T k + (if Vk C T (k : Int) then 1 else 0)
def wfst (C : Int) (T : Int → Int) : Nat → Int
  | 0 => -1
  | k + 1 => if wfst C T k = -1 then (if Vk C T (k : Int) then (k : Int) else -1) else wfst C T k
theorem toNat_s {k : Int} (h : 0 ≤ k) : (k + 1).toNat = k.toNat + 1 := by omega
theorem wcnt_y {C : Int} {T : Int → Int} {k : Int} (h : 0 ≤ k) (v : Vk C T k) : wcnt C T (k + 1).toNat = wcnt C T k.toNat + 1 := by
  rw [toNat_s h]; show _ + _ = _; rw [Int.toNat_of_nonneg h, if_pos v]
theorem wcnt_n {C : Int} {T : Int → Int} {k : Int} (h : 0 ≤ k) (v : ¬ Vk C T k) : wcnt C T (k + 1).toNat = wcnt C T k.toNat := by
  rw [toNat_s h]; show _ + _ = _; rw [Int.toNat_of_nonneg h, if_neg v]; omega
theorem wfst_y {C : Int} {T : Int → Int} {k : Int} (h : 0 ≤ k) (e : wfst C T k.toNat = -1) (v : Vk C T k) : wfst C T (k + 1).toNat = k := by
  rw [toNat_s h]; show (if _ then _ else _) = _; rw [Int.toNat_of_nonneg h, if_pos e, if_pos v]
theorem wfst_n {C : Int} {T : Int → Int} {k : Int} (h : 0 ≤ k) (e : wfst C T k.toNat = -1) (v : ¬ Vk C T k) : wfst C T (k + 1).toNat = -1 := by
  rw [toNat_s h]; show (if _ then _ else _) = _; rw [if_pos e, if_neg (by rw [Int.toNat_of_nonneg h]; exact v)]
theorem wfst_k {C : Int} {T : Int → Int} {k : Int} (h : 0 ≤ k) (e : wfst C T k.toNat ≠ -1) : wfst C T (k + 1).toNat = wfst C T k.toNat := by
  rw [toNat_s h]; show (if _ then _ else _) = _; rw [if_neg e]
theorem wfst_n' {C : Int} {T : Int → Int} {k : Int} (h : 0 ≤ k) (v : ¬ Vk C T k) : wfst C T (k + 1).toNat = wfst C T k.toNat := by
  by_cases e : wfst C T k.toNat = -1
  · rw [wfst_n h e v, e]
  · exact wfst_k h e
theorem wfst_stay {C : Int} {T : Int → Int} {k : Nat} (e : wfst C T k ≠ -1) : ∀ n, wfst C T (k + n) = wfst C T k
  | 0 => rfl
  | n + 1 => by
    show (if wfst C T (k + n) = -1 then _ else wfst C T (k + n)) = _
    rw [wfst_stay e n, if_neg e]
theorem wfst_is {C : Int} {T : Int → Int} {k K : Int} (h : 0 ≤ k) (hK : k < K) (e : wfst C T k.toNat = -1) (v : Vk C T k) : wfst C T K.toNat = k := by
  have h1 := wfst_y h e v
  have h2 := wfst_stay (C := C) (T := T) (k := (k + 1).toNat) (by rw [h1]; omega) (K.toNat - (k + 1).toNat)
  rw [show (k + 1).toNat + (K.toNat - (k + 1).toNat) = K.toNat by omega, h1] at h2
  exact h2
theorem wfst_bd {C : Int} {T : Int → Int} : ∀ k : Nat, wfst C T k = -1 ∨ (0 ≤ wfst C T k ∧ wfst C T k < k ∧ Vk C T (wfst C T k))
  | 0 => Or.inl rfl
  | k + 1 => by
    show (if wfst C T k = -1 then _ else _) = -1 ∨ (0 ≤ (if wfst C T k = -1 then _ else _) ∧ (if wfst C T k = -1 then _ else _) < _ ∧ Vk C T (if wfst C T k = -1 then _ else _))
    by_cases e : wfst C T k = -1
    · rw [if_pos e]
      by_cases v : Vk C T (k : Int)
      · rw [if_pos v]; exact Or.inr ⟨by omega, by omega, v⟩
      · rw [if_neg v]; exact Or.inl rfl
    · rw [if_neg e]
      rcases wfst_bd k with h | h
      · exact absurd h e
      · exact Or.inr ⟨h.1, by omega, h.2.2⟩
theorem wcnt_bd {C : Int} {T : Int → Int} : ∀ k : Nat, 0 ≤ wcnt C T k ∧ wcnt C T k ≤ k
  | 0 => ⟨Int.le_refl _, Int.le_refl _⟩
  | k + 1 => by
    have := wcnt_bd (C := C) (T := T) k
    show 0 ≤ _ + _ ∧ _ + _ ≤ _
    by_cases v : Vk C T (k : Int)
    · rw [if_pos v]; omega
    · rw [if_neg v]; omega
theorem wcnt_0 {C : Int} {T : Int → Int} : ∀ k : Nat, wcnt C T k = 0 ↔ wfst C T k = -1
  | 0 => ⟨fun _ => rfl, fun _ => rfl⟩
  | k + 1 => by
    have ih := wcnt_0 (C := C) (T := T) k
    have hb := wcnt_bd (C := C) (T := T) k
    simp only [wcnt, wfst]
    by_cases v : Vk C T (k : Int)
    · rw [if_pos v, if_pos v]
      by_cases e : wfst C T k = -1
      · rw [if_pos e]; omega
      · rw [if_neg e]
        exact ⟨fun q => absurd q (by omega), fun q => absurd q e⟩
    · rw [if_neg v, if_neg v]
      by_cases e : wfst C T k = -1
      · rw [if_pos e, Int.add_zero]; exact ⟨fun _ => rfl, fun _ => ih.2 e⟩
      · rw [if_neg e, Int.add_zero]; exact ih
theorem w_skip {C : Int} {T : Int → Int} {k : Int} (h : 0 ≤ k) : ∀ n : Nat, (∀ j, k ≤ j → j < k + n → ¬ Vk C T j) → wcnt C T (k + n).toNat = wcnt C T k.toNat ∧ wfst C T (k + n).toNat = wfst C T k.toNat
  | 0, _ => by rw [show k + ((0 : Nat) : Int) = k by omega]; exact ⟨rfl, rfl⟩
  | n + 1, hv => by
    obtain ⟨h1, h2⟩ := w_skip h n (fun j a b => hv j a (by omega))
    have h3 := hv (k + n) (by omega) (by omega)
    rw [show k + ((n + 1 : Nat) : Int) = (k + n) + 1 by omega, wcnt_n (by omega) h3, wfst_n' (by omega) h3]
    exact ⟨h1, h2⟩
def fdv (f z : Int) : Int := if f = -1 then -1 else z
/-- the rule's own numbers, when the places below k are looked through -/
def exs (σ : Sg) (k : Int) : Sg := up (up (up (up σ 4 0 (fdv (wfst (σ 1 1) (σ 2) k.toNat) (wfst (σ 1 1) (σ 2) k.toNat / 100))) 4 1 (fdv (wfst (σ 1 1) (σ 2) k.toNat) (wfst (σ 1 1) (σ 2) k.toNat / 10 % 10))) 4 2 (fdv (wfst (σ 1 1) (σ 2) k.toNat) (wfst (σ 1 1) (σ 2) k.toNat % 10))) 4 3 (wcnt (σ 1 1) (σ 2) k.toNat)
theorem exs_ne {σ : Sg} {k : Int} {a : Nat} (h : a ≠ 4) : exs σ k a = σ a := by
  unfold exs; rw [up_ne h, up_ne h, up_ne h, up_ne h]
theorem exs_3 {σ : Sg} {k : Int} : exs σ k 4 3 = wcnt (σ 1 1) (σ 2) k.toNat := up_eq
theorem exs_2 {σ : Sg} {k : Int} : exs σ k 4 2 = fdv (wfst (σ 1 1) (σ 2) k.toNat) (wfst (σ 1 1) (σ 2) k.toNat % 10) := by
  unfold exs; rw [up_nj (by decide), up_eq]
theorem exs_1 {σ : Sg} {k : Int} : exs σ k 4 1 = fdv (wfst (σ 1 1) (σ 2) k.toNat) (wfst (σ 1 1) (σ 2) k.toNat / 10 % 10) := by
  unfold exs; rw [up_nj (by decide), up_nj (by decide), up_eq]
theorem exs_0 {σ : Sg} {k : Int} : exs σ k 4 0 = fdv (wfst (σ 1 1) (σ 2) k.toNat) (wfst (σ 1 1) (σ 2) k.toNat / 100) := by
  unfold exs; rw [up_nj (by decide), up_nj (by decide), up_nj (by decide), up_eq]
theorem exs_skip {σ : Sg} {k k' : Int} (h : 0 ≤ k) (hk : k ≤ k') (hv : ∀ j, k ≤ j → j < k' → ¬ Vk (σ 1 1) (σ 2) j) : exs σ k' = exs σ k := by
  have h1 := w_skip h (k' - k).toNat (fun j a b => hv j a (by omega))
  rw [show k + ((k' - k).toNat : Int) = k' by omega] at h1
  unfold exs
  rw [h1.1, h1.2]
theorem up_ext {σ τ : Sg} (h : ∀ a, a ≠ 4 → σ a = τ a) (h4 : ∀ j, σ 4 j = τ 4 j) : σ = τ := by
  funext a j
  by_cases ha : a = 4
  · subst ha; exact h4 j
  · rw [h a ha]
/-- note -/
def nts (σ : Sg) (r c d : Int) : Sg := if σ 4 3 = 0 then up (up (up (up σ 4 0 r) 4 1 c) 4 2 d) 4 3 (σ 4 3 + 1) else up σ 4 3 (σ 4 3 + 1)
theorem up_twice {σ : Sg} {a : Nat} {i x y : Int} : up (up σ a i x) a i y = up σ a i y := by
  funext b j
  simp only [up]
  by_cases hb : b = a
  · by_cases hj : j = i
    · simp [hb, hj]
    · simp [hb, hj]
  · simp [hb]
theorem exs_note {σ : Sg} {k : Int} (h : 0 ≤ k) (v : Vk (σ 1 1) (σ 2) k) : nts (exs σ k) (k / 100) (k / 10 % 10) (k % 10) = exs σ (k + 1) := by
  have h0 := wcnt_0 (C := σ 1 1) (T := σ 2) k.toNat
  unfold nts
  rw [exs_3]
  by_cases e : wcnt (σ 1 1) (σ 2) k.toNat = 0
  · rw [if_pos e]
    have e1 := h0.1 e
    have h2 := wfst_y h e1 v
    have h3 := wcnt_y h v
    apply up_ext
    · intro a ha; rw [up_ne ha, up_ne ha, up_ne ha, up_ne ha, exs_ne ha, exs_ne ha]
    · intro j
      have hf : ∀ z, fdv k z = z := fun z => if_neg (by omega)
      simp only [exs, up, h2, h3, hf]
      by_cases j3 : j = 3 <;> by_cases j2 : j = 2 <;> by_cases j1 : j = 1 <;> by_cases j0 : j = 0 <;> simp [j3, j2, j1, j0]
  · rw [if_neg e]
    have e1 : wfst (σ 1 1) (σ 2) k.toNat ≠ -1 := fun q => e (h0.2 q)
    have h2 := wfst_k h e1
    have h3 := wcnt_y h v
    unfold exs
    rw [h2, h3, up_twice]

set_option maxHeartbeats 1000000 in
set_option maxRecDepth 100000 in
theorem tX3_isGreater (G : GT) (σ : Sg) (r c d : Int) (h : 0 ≤ r ∧ r < 10 ∧ 0 ≤ c ∧ c < 10 ∧ 0 ≤ d ∧ d < 10) (hT : ∀ i, 0 ≤ σ 2 i ∧ σ 2 i ≤ 9999) : Ct G mX3_isGreater 2 0 0 false (SH Ω) (SH Ω) [Rf G 4, I r, I c, I d] σ (fun rv sv => (((σ 2 (10 * r + d) < σ 2 (10 * r + c)) ∧ some (I 1) = rv) ∨ (¬ (σ 2 (10 * r + d) < σ 2 (10 * r + c)) ∧ some (I 0) = rv)) ∧ σ = sv) := by
  obtain ⟨P, hP⟩ : ∃ P : Option Value → Sg → Prop, P = (fun rv sv => (((σ 2 (10 * r + d) < σ 2 (10 * r + c)) ∧ some (I 1) = rv) ∨ (¬ (σ 2 (10 * r + d) < σ 2 (10 * r + c)) ∧ some (I 0) = rv)) ∧ σ = sv) := ⟨_, rfl⟩
  rw [← hP]
  refine ct_of (lv := [(0, Rf G 4), (1, I r), (2, I c), (3, I d)]) (by decide +kernel) (Nat.le_of_ble_eq_true rfl) rfl ?_
  refine r_aload_n dX3_isGreater_0 rfl rfl ?_
  refine r_getR (b := 1) dX3_isGreater_1 sh4 rfl (ci := 3) (j := 4) rfl (Nat.le_of_ble_eq_true rfl) ixX3 q67 rfl ?_
  refine r_iload_n dX3_isGreater_4 rfl rfl ?_
  refine r_iload_n dX3_isGreater_5 rfl rfl ?_
  refine r_callV (tX5_numberAt G σ r c (by omega)) dX3_isGreater_6 svX5_numberAt q235 sh1 (ci := 5) rfl rfl rfl ⟨Nat.le_of_ble_eq_true rfl, Nat.le_of_ble_eq_true rfl⟩ (Nat.le_of_ble_eq_true rfl) ⟨Nat.le_of_ble_eq_true rfl, Nat.le_of_ble_eq_true rfl⟩ ?_
  rintro _ _ ⟨rfl, rfl⟩
  have b1 := hT (10 * r + c)
  refine r_aload_n dX3_isGreater_9 rfl rfl ?_
  refine r_getR (b := 1) dX3_isGreater_10 sh4 rfl (ci := 3) (j := 4) rfl (Nat.le_of_ble_eq_true rfl) ixX3 q67 rfl ?_
  refine r_iload_n dX3_isGreater_13 rfl rfl ?_
  refine r_iload_n dX3_isGreater_14 rfl rfl ?_
  refine r_callV (tX5_numberAt G σ r d (by omega)) dX3_isGreater_15 svX5_numberAt q235 sh1 (ci := 5) rfl rfl rfl ⟨Nat.le_of_ble_eq_true rfl, Nat.le_of_ble_eq_true rfl⟩ (Nat.le_of_ble_eq_true rfl) ⟨Nat.le_of_ble_eq_true rfl, Nat.le_of_ble_eq_true rfl⟩ ?_
  rintro _ _ ⟨rfl, rfl⟩
  have b2 := hT (10 * r + d)
  refine r_icmp_le (tgt := 25) dX3_isGreater_18 (by decide) (by omega) (fun hb1 => ?_) (fun hb1 => ?_)
  · skip
    refine r_iconst dX3_isGreater_25 ?_
    exact r_zret dX3_isGreater_26 rfl (by first | rfl | decide) (by rw [hP]; exact ⟨by first | exact Or.inl ⟨by omega, rfl⟩ | exact Or.inr ⟨by omega, rfl⟩, rfl⟩)
  · skip
    refine r_iconst dX3_isGreater_21 ?_
    refine r_goto (tgt := 26) dX3_isGreater_22 (by decide) ?_
    exact r_zret dX3_isGreater_26 rfl (by first | rfl | decide) (by rw [hP]; exact ⟨by first | exact Or.inl ⟨by omega, rfl⟩ | exact Or.inr ⟨by omega, rfl⟩, rfl⟩)
set_option maxHeartbeats 1000000 in
set_option maxRecDepth 100000 in
theorem tX3_note (G : GT) (σ : Sg) (r c d : Int) (h : 0 ≤ σ 4 3 ∧ σ 4 3 ≤ 10000) : Ct G mX3_note 1 0 0 false (SH Ω) (SH Ω) [Rf G 4, I r, I c, I d] σ (fun rv sv => none = rv ∧ nts σ r c d = sv) := by
  obtain ⟨P, hP⟩ : ∃ P : Option Value → Sg → Prop, P = (fun rv sv => none = rv ∧ nts σ r c d = sv) := ⟨_, rfl⟩
  rw [← hP]
  refine ct_of (lv := [(0, Rf G 4), (1, I r), (2, I c), (3, I d)]) (by decide +kernel) (Nat.le_of_ble_eq_true rfl) rfl ?_
  refine r_aload_n dX3_note_0 rfl rfl ?_
  refine r_getI (z := 3) dX3_note_1 sh4 rfl (ci := 3) (j := 3) rfl (Nat.le_of_ble_eq_true rfl) rfl ixX3 q65 rfl (hv := rfl) ?_
  refine r_if_ne (tgt := 22) dX3_note_4 (by decide) (by omega) (fun hb1 => ?_) (fun hb1 => ?_)
  · skip
    refine r_aload_n dX3_note_22 rfl rfl ?_
    refine r_dup dX3_note_23 rfl ?_
    refine r_getI (z := 3) dX3_note_24 sh4 rfl (ci := 3) (j := 3) rfl (Nat.le_of_ble_eq_true rfl) rfl ixX3 q65 rfl (hv := rfl) ?_
    refine r_iconst dX3_note_27 ?_
    refine r_iadd dX3_note_28 ?_
    refine r_putI (z := 3) tyX3 dX3_note_29 sh4 rfl (ci := 3) (j := 3) rfl (Nat.le_of_ble_eq_true rfl) rfl tyX3_ok nmX3 ixX3 q65 rfl rfl rfl ?_
    exact r_vret dX3_note_32 rfl (by rw [hP]; exact ⟨rfl, by unfold nts; first | rw [if_pos (show σ 4 3 = 0 by omega)] | rw [if_neg (show ¬ σ 4 3 = 0 by omega)]⟩)
  · skip
    refine r_aload_n dX3_note_7 rfl rfl ?_
    refine r_iload_n dX3_note_8 rfl rfl ?_
    refine r_putI (z := 0) tyX3 dX3_note_9 sh4 rfl (ci := 3) (j := 0) rfl (Nat.le_of_ble_eq_true rfl) rfl tyX3_ok nmX3 ixX3 q59 rfl rfl rfl ?_
    refine r_aload_n dX3_note_12 rfl rfl ?_
    refine r_iload_n dX3_note_13 rfl rfl ?_
    refine r_putI (z := 1) tyX3 dX3_note_14 sh4 rfl (ci := 3) (j := 1) rfl (Nat.le_of_ble_eq_true rfl) rfl tyX3_ok nmX3 ixX3 q61 rfl rfl rfl ?_
    refine r_aload_n dX3_note_17 rfl rfl ?_
    refine r_iload_n dX3_note_18 rfl rfl ?_
    refine r_putI (z := 2) tyX3 dX3_note_19 sh4 rfl (ci := 3) (j := 2) rfl (Nat.le_of_ble_eq_true rfl) rfl tyX3_ok nmX3 ixX3 q63 rfl rfl rfl ?_
    refine r_aload_n dX3_note_22 rfl rfl ?_
    refine r_dup dX3_note_23 rfl ?_
    refine r_getI (z := 3) dX3_note_24 sh4 rfl (ci := 3) (j := 3) rfl (Nat.le_of_ble_eq_true rfl) rfl ixX3 q65 rfl (hv := (up_nj (by decide)).trans ((up_nj (by decide)).trans (up_nj (by decide)))) ?_
    refine r_iconst dX3_note_27 ?_
    refine r_iadd dX3_note_28 ?_
    refine r_putI (z := 3) tyX3 dX3_note_29 sh4 rfl (ci := 3) (j := 3) rfl (Nat.le_of_ble_eq_true rfl) rfl tyX3_ok nmX3 ixX3 q65 rfl rfl rfl ?_
    exact r_vret dX3_note_32 rfl (by rw [hP]; exact ⟨rfl, by unfold nts; first | rw [if_pos (show σ 4 3 = 0 by omega)] | rw [if_neg (show ¬ σ 4 3 = 0 by omega)]⟩)
set_option maxHeartbeats 1000000 in
set_option maxRecDepth 100000 in
theorem tX3_examine (G : GT) (σ : Sg)  (hR : 1 ≤ σ 1 0 ∧ σ 1 0 ≤ 10) (hC : 1 ≤ σ 1 1 ∧ σ 1 1 ≤ 10) (hT : ∀ i, 0 ≤ σ 2 i ∧ σ 2 i ≤ 9999) : Ct G mX3_examine 3 0 0 false (SH Ω) (SH Ω) [Rf G 4] σ (fun rv sv => none = rv ∧ exs σ (100 * (σ 1 0 - 1)) = sv) := by
  obtain ⟨P, hP⟩ : ∃ P : Option Value → Sg → Prop, P = (fun rv sv => none = rv ∧ exs σ (100 * (σ 1 0 - 1)) = sv) := ⟨_, rfl⟩
  rw [← hP]
  refine ct_of (lv := [(0, Rf G 4)]) (by decide +kernel) (Nat.le_of_ble_eq_true rfl) rfl ?_
  refine r_aload_n dX3_examine_0 rfl rfl ?_
  refine r_iconst dX3_examine_1 ?_
  refine r_putI (z := 0) tyX3 dX3_examine_2 sh4 rfl (ci := 3) (j := 0) rfl (Nat.le_of_ble_eq_true rfl) rfl tyX3_ok nmX3 ixX3 q59 rfl rfl rfl ?_
  refine r_aload_n dX3_examine_5 rfl rfl ?_
  refine r_iconst dX3_examine_6 ?_
  refine r_putI (z := 1) tyX3 dX3_examine_7 sh4 rfl (ci := 3) (j := 1) rfl (Nat.le_of_ble_eq_true rfl) rfl tyX3_ok nmX3 ixX3 q61 rfl rfl rfl ?_
  refine r_aload_n dX3_examine_10 rfl rfl ?_
  refine r_iconst dX3_examine_11 ?_
  refine r_putI (z := 2) tyX3 dX3_examine_12 sh4 rfl (ci := 3) (j := 2) rfl (Nat.le_of_ble_eq_true rfl) rfl tyX3_ok nmX3 ixX3 q63 rfl rfl rfl ?_
  refine r_aload_n dX3_examine_15 rfl rfl ?_
  refine r_iconst dX3_examine_16 ?_
  refine r_putI (z := 3) tyX3 dX3_examine_17 sh4 rfl (ci := 3) (j := 3) rfl (Nat.le_of_ble_eq_true rfl) rfl tyX3_ok nmX3 ixX3 q65 rfl rfl rfl ?_
  refine r_iconst dX3_examine_20 ?_
  refine r_istore_n (lv' := [(0, Rf G 4), (1, I 0)]) dX3_examine_21 rfl (Nat.le_of_ble_eq_true rfl) rfl ?_
  have L22 : ∀ (mm : Nat) (r : Int) (s : Sg), (σ 1 0 - r).toNat = mm → (hr : 0 ≤ r ∧ r ≤ σ 1 0 - 1) → (hS : s = exs σ (100 * r)) → Rn G mX3_examine (rmD 3 0 0) E0 (Zn G false (SH Ω) P 0 0) false (SH Ω) 0 0 22 [(0, Rf G 4), (1, I r)] [] s := by
    intro mm
    induction mm using Nat.strongRecOn with
    | _ mm ih22 =>
    intro r s hm22 hr hS
    have e1 : s 1 = σ 1 := by rw [hS]; exact exs_ne (by decide)
    have e2 : s 2 = σ 2 := by rw [hS]; exact exs_ne (by decide)
    refine r_iload_n dX3_examine_22 rfl rfl ?_
    refine r_aload_n dX3_examine_23 rfl rfl ?_
    refine r_getR (b := 1) dX3_examine_24 sh4 rfl (ci := 3) (j := 4) rfl (Nat.le_of_ble_eq_true rfl) ixX3 q67 rfl ?_
    refine r_getI (z := 0) dX3_examine_27 sh1 rfl (ci := 5) (j := 0) rfl (Nat.le_of_ble_eq_true rfl) rfl ixX5 q36 rfl (hv := congrFun (e1) 0) ?_
    refine r_iconst dX3_examine_30 ?_
    refine r_isub dX3_examine_31 ?_
    refine r_icmp_ge (tgt := 112) dX3_examine_32 (by decide) (by omega) (fun hb1 => ?_) (fun hb1 => ?_)
    · skip
      exact r_vret dX3_examine_112 rfl (by rw [hP]; exact ⟨rfl, by rw [hS, show r = σ 1 0 - 1 by omega]⟩)
    · skip
      refine r_iconst dX3_examine_35 ?_
      refine r_istore_n (lv' := [(0, Rf G 4), (1, I r), (2, I 0)]) dX3_examine_36 rfl (Nat.le_of_ble_eq_true rfl) rfl ?_
      have L37 : ∀ (mm : Nat) (c : Int) (s : Sg), (σ 1 1 - c).toNat = mm → (hc : 0 ≤ c ∧ c ≤ σ 1 1 - 1) → (hS : s = exs σ (100 * r + 10 * c)) → Rn G mX3_examine (rmD 3 0 0) E0 (Zn G false (SH Ω) P 0 0) false (SH Ω) 0 0 37 [(0, Rf G 4), (1, I r), (2, I c)] [] s := by
        intro mm
        induction mm using Nat.strongRecOn with
        | _ mm ih37 =>
        intro c s hm37 hc hS
        have e1 : s 1 = σ 1 := by rw [hS]; exact exs_ne (by decide)
        have e2 : s 2 = σ 2 := by rw [hS]; exact exs_ne (by decide)
        refine r_iload_n dX3_examine_37 rfl rfl ?_
        refine r_aload_n dX3_examine_38 rfl rfl ?_
        refine r_getR (b := 1) dX3_examine_39 sh4 rfl (ci := 3) (j := 4) rfl (Nat.le_of_ble_eq_true rfl) ixX3 q67 rfl ?_
        refine r_getI (z := 1) dX3_examine_42 sh1 rfl (ci := 5) (j := 1) rfl (Nat.le_of_ble_eq_true rfl) rfl ixX5 q40 rfl (hv := congrFun (e1) 1) ?_
        refine r_iconst dX3_examine_45 ?_
        refine r_isub dX3_examine_46 ?_
        refine r_icmp_ge (tgt := 106) dX3_examine_47 (by decide) (by omega) (fun hb2 => ?_) (fun hb2 => ?_)
        · skip
          refine r_iinc (lv' := [(0, Rf G 4), (1, I (r + 1)), (2, I c)]) dX3_examine_106 (Nat.le_of_ble_eq_true rfl) rfl rfl ?_
          refine r_goto (tgt := 22) dX3_examine_109 (by decide) ?_
          refine r_sub [0, 1] rfl ?_
          exact ih22 _ (by omega) (r + 1) _ rfl (by omega) (by rw [hS]; exact (exs_skip (by omega) (by omega) (fun j a b q => by have := q.1; have := q.2.1; omega)).symm)
        · skip
          refine r_iload_n dX3_examine_50 rfl rfl ?_
          refine r_iconst dX3_examine_51 ?_
          refine r_iadd dX3_examine_52 ?_
          refine r_istore_n (lv' := [(0, Rf G 4), (1, I r), (2, I c), (3, I (c + 1))]) dX3_examine_53 rfl (Nat.le_of_ble_eq_true rfl) rfl ?_
          have L54 : ∀ (mm : Nat) (d : Int) (s : Sg), (σ 1 1 - d).toNat = mm → (hd : c + 1 ≤ d ∧ d ≤ σ 1 1) → (hS : s = exs σ (100 * r + 10 * c + d)) → Rn G mX3_examine (rmD 3 0 0) E0 (Zn G false (SH Ω) P 0 0) false (SH Ω) 0 0 54 [(0, Rf G 4), (1, I r), (2, I c), (3, I d)] [] s := by
            intro mm
            induction mm using Nat.strongRecOn with
            | _ mm ih54 =>
            intro d s hm54 hd hS
            have e1 : s 1 = σ 1 := by rw [hS]; exact exs_ne (by decide)
            have e2 : s 2 = σ 2 := by rw [hS]; exact exs_ne (by decide)
            refine r_iload_n dX3_examine_54 rfl rfl ?_
            refine r_aload_n dX3_examine_55 rfl rfl ?_
            refine r_getR (b := 1) dX3_examine_56 sh4 rfl (ci := 3) (j := 4) rfl (Nat.le_of_ble_eq_true rfl) ixX3 q67 rfl ?_
            refine r_getI (z := 1) dX3_examine_59 sh1 rfl (ci := 5) (j := 1) rfl (Nat.le_of_ble_eq_true rfl) rfl ixX5 q40 rfl (hv := congrFun (e1) 1) ?_
            refine r_icmp_ge (tgt := 100) dX3_examine_62 (by decide) (by omega) (fun hb3 => ?_) (fun hb3 => ?_)
            · skip
              refine r_iinc (lv' := [(0, Rf G 4), (1, I r), (2, I (c + 1)), (3, I d)]) dX3_examine_100 (Nat.le_of_ble_eq_true rfl) rfl rfl ?_
              refine r_goto (tgt := 37) dX3_examine_103 (by decide) ?_
              refine r_sub [0, 1, 2] rfl ?_
              exact ih37 _ (by omega) (c + 1) _ rfl (by omega) (by rw [hS]; exact (exs_skip (by omega) (by omega) (fun j a b q => by have := q.1; have := q.2.1; omega)).symm)
            · skip
              have k1 : (100 * r + 10 * c + d) / 100 = r := by omega
              have k2 : (100 * r + 10 * c + d) / 10 % 10 = c := by omega
              have k3 : (100 * r + 10 * c + d) % 10 = d := by omega
              have hvk : Vk (σ 1 1) (σ 2) (100 * r + 10 * c + d) ↔ Ag (σ 2) r c d := by unfold Vk; rw [k1, k2, k3]; exact ⟨fun q => q.2.2, fun q => ⟨by omega, by omega, q⟩⟩
              refine r_aload_n dX3_examine_65 rfl rfl ?_
              refine r_iload_n dX3_examine_66 rfl rfl ?_
              refine r_iload_n dX3_examine_67 rfl rfl ?_
              refine r_iload_n dX3_examine_68 rfl rfl ?_
              refine r_callV (tX3_isGreater G s r c d (by omega) (by rw [e2]; exact hT)) dX3_examine_69 svX3_isGreater q232 sh4 (ci := 3) rfl rfl rfl ⟨Nat.le_of_ble_eq_true rfl, Nat.le_of_ble_eq_true rfl⟩ (Nat.le_of_ble_eq_true rfl) ⟨Nat.le_of_ble_eq_true rfl, Nat.le_of_ble_eq_true rfl⟩ ?_
              rintro _ _ ⟨⟨hq4, rfl⟩ | ⟨hq4, rfl⟩, rfl⟩
              · skip
                refine r_if_eq (tgt := 94) dX3_examine_72 (by decide) (by omega) (fun hb5 => ?_) (fun hb5 => ?_)
                · skip
                  exact absurd hb5 (by omega)
                · skip
                  refine r_aload_n dX3_examine_75 rfl rfl ?_
                  refine r_iload_n dX3_examine_76 rfl rfl ?_
                  refine r_iconst dX3_examine_77 ?_
                  refine r_iadd dX3_examine_78 ?_
                  refine r_iload_n dX3_examine_79 rfl rfl ?_
                  refine r_iload_n dX3_examine_80 rfl rfl ?_
                  refine r_callV (tX3_isGreater G s (r + 1) c d (by omega) (by rw [e2]; exact hT)) dX3_examine_81 svX3_isGreater q232 sh4 (ci := 3) rfl rfl rfl ⟨Nat.le_of_ble_eq_true rfl, Nat.le_of_ble_eq_true rfl⟩ (Nat.le_of_ble_eq_true rfl) ⟨Nat.le_of_ble_eq_true rfl, Nat.le_of_ble_eq_true rfl⟩ ?_
                  rintro _ _ ⟨⟨hq6, rfl⟩ | ⟨hq6, rfl⟩, rfl⟩
                  · skip
                    refine r_if_ne (tgt := 94) dX3_examine_84 (by decide) (by omega) (fun hb7 => ?_) (fun hb7 => ?_)
                    · skip
                      refine r_iinc (lv' := [(0, Rf G 4), (1, I r), (2, I c), (3, I (d + 1))]) dX3_examine_94 (Nat.le_of_ble_eq_true rfl) rfl rfl ?_
                      refine r_goto (tgt := 54) dX3_examine_97 (by decide) ?_
                      exact ih54 _ (by omega) (d + 1) _ rfl (by omega) (by first | (rw [hS, show 100 * r + 10 * c + (d + 1) = 100 * r + 10 * c + d + 1 by omega]; exact (exs_skip (by omega) (by omega) (fun j a b q => by rw [show j = 100 * r + 10 * c + d by omega, hvk] at q; rw [e2] at *; have := q.1; have := q.2; omega)).symm) | (rw [hS] at *; rw [show 100 * r + 10 * c + (d + 1) = 100 * r + 10 * c + d + 1 by omega, ← exs_note (by omega) (hvk.2 ⟨by rw [← e2]; omega, by rw [← e2]; omega⟩), k1, k2, k3]))
                    · skip
                      exact absurd hb7 (by omega)
                  · skip
                    refine r_if_ne (tgt := 94) dX3_examine_84 (by decide) (by omega) (fun hb8 => ?_) (fun hb8 => ?_)
                    · skip
                      exact absurd hb8 (by omega)
                    · skip
                      refine r_aload_n dX3_examine_87 rfl rfl ?_
                      refine r_iload_n dX3_examine_88 rfl rfl ?_
                      refine r_iload_n dX3_examine_89 rfl rfl ?_
                      refine r_iload_n dX3_examine_90 rfl rfl ?_
                      refine r_callV (tX3_note G s r c d (by rw [hS, exs_3]; have := wcnt_bd (C := σ 1 1) (T := σ 2) (100 * r + 10 * c + d).toNat; omega)) dX3_examine_91 svX3_note q236 sh4 (ci := 3) rfl rfl rfl ⟨Nat.le_of_ble_eq_true rfl, Nat.le_of_ble_eq_true rfl⟩ (Nat.le_of_ble_eq_true rfl) ⟨Nat.le_of_ble_eq_true rfl, Nat.le_of_ble_eq_true rfl⟩ ?_
                      rintro _ _ ⟨rfl, rfl⟩
                      refine r_iinc (lv' := [(0, Rf G 4), (1, I r), (2, I c), (3, I (d + 1))]) dX3_examine_94 (Nat.le_of_ble_eq_true rfl) rfl rfl ?_
                      refine r_goto (tgt := 54) dX3_examine_97 (by decide) ?_
                      exact ih54 _ (by omega) (d + 1) _ rfl (by omega) (by first | (rw [hS, show 100 * r + 10 * c + (d + 1) = 100 * r + 10 * c + d + 1 by omega]; exact (exs_skip (by omega) (by omega) (fun j a b q => by rw [show j = 100 * r + 10 * c + d by omega, hvk] at q; rw [e2] at *; have := q.1; have := q.2; omega)).symm) | (rw [hS] at *; rw [show 100 * r + 10 * c + (d + 1) = 100 * r + 10 * c + d + 1 by omega, ← exs_note (by omega) (hvk.2 ⟨by rw [← e2]; omega, by rw [← e2]; omega⟩), k1, k2, k3]))
              · skip
                refine r_if_eq (tgt := 94) dX3_examine_72 (by decide) (by omega) (fun hb9 => ?_) (fun hb9 => ?_)
                · skip
                  refine r_iinc (lv' := [(0, Rf G 4), (1, I r), (2, I c), (3, I (d + 1))]) dX3_examine_94 (Nat.le_of_ble_eq_true rfl) rfl rfl ?_
                  refine r_goto (tgt := 54) dX3_examine_97 (by decide) ?_
                  exact ih54 _ (by omega) (d + 1) _ rfl (by omega) (by first | (rw [hS, show 100 * r + 10 * c + (d + 1) = 100 * r + 10 * c + d + 1 by omega]; exact (exs_skip (by omega) (by omega) (fun j a b q => by rw [show j = 100 * r + 10 * c + d by omega, hvk] at q; rw [e2] at *; have := q.1; have := q.2; omega)).symm) | (rw [hS] at *; rw [show 100 * r + 10 * c + (d + 1) = 100 * r + 10 * c + d + 1 by omega, ← exs_note (by omega) (hvk.2 ⟨by rw [← e2]; omega, by rw [← e2]; omega⟩), k1, k2, k3]))
                · skip
                  exact absurd hb9 (by omega)
          exact L54 _ (c + 1) _ rfl (by omega) (by rw [hS]; exact (exs_skip (by omega) (by omega) (fun j a b q => by have := q.1; have := q.2.1; omega)).symm)
      exact L37 _ 0 _ rfl (by omega) (by rw [hS]; congr 1; omega)
  exact L22 _ 0 _ rfl (by omega) (rfl)
set_option maxHeartbeats 1000000 in
set_option maxRecDepth 100000 in
theorem tX3_told (G : GT) (σ : Sg) (w : Int) (h : 0 ≤ w ∧ w ≤ 3) : Ct G mX3_told 1 0 0 false (SH Ω) (SH Ω) [Rf G 4, I w] σ (fun rv sv => some (I (σ 4 w)) = rv ∧ σ = sv) := by
  obtain ⟨P, hP⟩ : ∃ P : Option Value → Sg → Prop, P = (fun rv sv => some (I (σ 4 w)) = rv ∧ σ = sv) := ⟨_, rfl⟩
  rw [← hP]
  refine ct_of (lv := [(0, Rf G 4), (1, I w)]) (by decide +kernel) (Nat.le_of_ble_eq_true rfl) rfl ?_
  refine r_iload_n dX3_told_0 rfl rfl ?_
  have hw1 : w = 0 ∨ w = 1 ∨ w = 2 ∨ w = 3 := by omega
  rcases hw1 with rfl | rfl | rfl | rfl
  · skip
    refine r_tableIn (off := 27) (tgt := 28) dX3_told_1 (by omega) rfl (by decide) ?_
    refine r_aload_n dX3_told_28 rfl rfl ?_
    refine r_getI (z := 0) dX3_told_29 sh4 rfl (ci := 3) (j := 0) rfl (Nat.le_of_ble_eq_true rfl) rfl ixX3 q59 rfl (hv := rfl) ?_
    exact r_iret dX3_told_32 rfl (by rw [hP]; exact ⟨rfl, rfl⟩)
  · skip
    refine r_tableIn (off := 32) (tgt := 33) dX3_told_1 (by omega) rfl (by decide) ?_
    refine r_aload_n dX3_told_33 rfl rfl ?_
    refine r_getI (z := 1) dX3_told_34 sh4 rfl (ci := 3) (j := 1) rfl (Nat.le_of_ble_eq_true rfl) rfl ixX3 q61 rfl (hv := rfl) ?_
    exact r_iret dX3_told_37 rfl (by rw [hP]; exact ⟨rfl, rfl⟩)
  · skip
    refine r_tableIn (off := 37) (tgt := 38) dX3_told_1 (by omega) rfl (by decide) ?_
    refine r_aload_n dX3_told_38 rfl rfl ?_
    refine r_getI (z := 2) dX3_told_39 sh4 rfl (ci := 3) (j := 2) rfl (Nat.le_of_ble_eq_true rfl) rfl ixX3 q63 rfl (hv := rfl) ?_
    exact r_iret dX3_told_42 rfl (by rw [hP]; exact ⟨rfl, rfl⟩)
  · skip
    refine r_tableOut (tgt := 43) dX3_told_1 (by omega) (by decide) ?_
    refine r_aload_n dX3_told_43 rfl rfl ?_
    refine r_getI (z := 3) dX3_told_44 sh4 rfl (ci := 3) (j := 3) rfl (Nat.le_of_ble_eq_true rfl) rfl ixX3 q65 rfl (hv := rfl) ?_
    exact r_iret dX3_told_47 rfl (by rw [hP]; exact ⟨rfl, rfl⟩)
abbrev Kp (R C : Int) (T : Int → Int) : Prop := wfst C T (100 * (R - 1)).toNat = -1
theorem Kp_0 {R C : Int} {T : Int → Int} : Kp R C T ↔ wcnt C T (100 * (R - 1)).toNat = 0 := (wcnt_0 _).symm
def opn (σ : Sg) (w : Int) : Sg := if w = 0 then σ else exs σ (100 * (σ 1 0 - 1))
theorem opn_ne {σ : Sg} {w : Int} {a : Nat} (h : a ≠ 4) : opn σ w a = σ a := by
  unfold opn
  by_cases hw : w = 0
  · rw [if_pos hw]
  · rw [if_neg hw, exs_ne h]
def tM (f : Int → Int) : Int → Int := fun i => if 0 ≤ i ∧ i < 100 then f (16 + i) else 0
theorem tM_at {f : Int → Int} {i : Int} (h : 0 ≤ i ∧ i < 100) : f (16 + i) = tM f i := by unfold tM; rw [if_pos h]
set_option maxHeartbeats 1000000 in
set_option maxRecDepth 100000 in
theorem tX3_isKept (G : GT) (σ : Sg)  (hR : 1 ≤ σ 1 0 ∧ σ 1 0 ≤ 10) (hC : 1 ≤ σ 1 1 ∧ σ 1 1 ≤ 10) (hT : ∀ i, 0 ≤ σ 2 i ∧ σ 2 i ≤ 9999) : Ct G mX3_isKept 4 0 0 false (SH Ω) (SH Ω) [Rf G 4] σ (fun rv sv => (((Kp (σ 1 0) (σ 1 1) (σ 2)) ∧ some (I 1) = rv) ∨ (¬ (Kp (σ 1 0) (σ 1 1) (σ 2)) ∧ some (I 0) = rv)) ∧ exs σ (100 * (σ 1 0 - 1)) = sv) := by
  obtain ⟨P, hP⟩ : ∃ P : Option Value → Sg → Prop, P = (fun rv sv => (((Kp (σ 1 0) (σ 1 1) (σ 2)) ∧ some (I 1) = rv) ∨ (¬ (Kp (σ 1 0) (σ 1 1) (σ 2)) ∧ some (I 0) = rv)) ∧ exs σ (100 * (σ 1 0 - 1)) = sv) := ⟨_, rfl⟩
  rw [← hP]
  refine ct_of (lv := [(0, Rf G 4)]) (by decide +kernel) (Nat.le_of_ble_eq_true rfl) rfl ?_
  refine r_aload_n dX3_isKept_0 rfl rfl ?_
  refine r_callV (tX3_examine G σ  (by omega) (by omega) (by omega)) dX3_isKept_1 svX3_examine q228 sh4 (ci := 3) rfl rfl rfl ⟨Nat.le_of_ble_eq_true rfl, Nat.le_of_ble_eq_true rfl⟩ (Nat.le_of_ble_eq_true rfl) ⟨Nat.le_of_ble_eq_true rfl, Nat.le_of_ble_eq_true rfl⟩ ?_
  rintro _ _ ⟨rfl, rfl⟩
  refine r_aload_n dX3_isKept_4 rfl rfl ?_
  refine r_getI (z := 3) dX3_isKept_5 sh4 rfl (ci := 3) (j := 3) rfl (Nat.le_of_ble_eq_true rfl) rfl ixX3 q65 rfl (hv := exs_3) ?_
  have hwb := wcnt_bd (C := σ 1 1) (T := σ 2) (100 * (σ 1 0 - 1)).toNat
  refine r_if_ne (tgt := 15) dX3_isKept_8 (by decide) (by omega) (fun hb1 => ?_) (fun hb1 => ?_)
  · skip
    refine r_iconst dX3_isKept_15 ?_
    exact r_zret dX3_isKept_16 rfl (by first | rfl | decide) (by rw [hP]; exact ⟨by first | exact Or.inl ⟨by rw [Kp_0]; omega, rfl⟩ | exact Or.inr ⟨by rw [Kp_0]; omega, rfl⟩, rfl⟩)
  · skip
    refine r_iconst dX3_isKept_11 ?_
    refine r_goto (tgt := 16) dX3_isKept_12 (by decide) ?_
    exact r_zret dX3_isKept_16 rfl (by first | rfl | decide) (by rw [hP]; exact ⟨by first | exact Or.inl ⟨by rw [Kp_0]; omega, rfl⟩ | exact Or.inr ⟨by rw [Kp_0]; omega, rfl⟩, rfl⟩)
set_option maxHeartbeats 1000000 in
set_option maxRecDepth 100000 in
theorem tX7_isOpen (G : GT) (σ : Sg) (w : Int) (hR : 1 ≤ σ 1 0 ∧ σ 1 0 ≤ 10) (hC : 1 ≤ σ 1 1 ∧ σ 1 1 ≤ 10) (hT : ∀ i, 0 ≤ σ 2 i ∧ σ 2 i ≤ 9999) (h : 0 ≤ w ∧ w ≤ 2) : Ct G mX7_isOpen 5 0 0 false (SH Ω) (SH Ω) [Rf G 0, I w] σ (fun rv sv => (((w = 0 ∨ Kp (σ 1 0) (σ 1 1) (σ 2)) ∧ some (I 1) = rv) ∨ (¬ (w = 0 ∨ Kp (σ 1 0) (σ 1 1) (σ 2)) ∧ some (I 0) = rv)) ∧ opn σ w = sv) := by
  obtain ⟨P, hP⟩ : ∃ P : Option Value → Sg → Prop, P = (fun rv sv => (((w = 0 ∨ Kp (σ 1 0) (σ 1 1) (σ 2)) ∧ some (I 1) = rv) ∨ (¬ (w = 0 ∨ Kp (σ 1 0) (σ 1 1) (σ 2)) ∧ some (I 0) = rv)) ∧ opn σ w = sv) := ⟨_, rfl⟩
  rw [← hP]
  refine ct_of (lv := [(0, Rf G 0), (1, I w)]) (by decide +kernel) (Nat.le_of_ble_eq_true rfl) rfl ?_
  refine r_iload_n dX7_isOpen_0 rfl rfl ?_
  refine r_if_eq (tgt := 14) dX7_isOpen_1 (by decide) (by omega) (fun hb1 => ?_) (fun hb1 => ?_)
  · skip
    refine r_iconst dX7_isOpen_14 ?_
    refine r_goto (tgt := 19) dX7_isOpen_15 (by decide) ?_
    exact r_zret dX7_isOpen_19 rfl (by first | rfl | decide) (by rw [hP]; exact ⟨by first | exact Or.inl ⟨by first | exact Or.inl (by omega) | exact Or.inr (by assumption), rfl⟩ | exact Or.inr ⟨fun q => q.elim (by omega) (by assumption), rfl⟩, by unfold opn; first | rw [if_pos (show w = 0 by omega)] | rw [if_neg (show ¬ w = 0 by omega)]⟩)
  · skip
    refine r_aload_n dX7_isOpen_4 rfl rfl ?_
    refine r_getR (b := 4) dX7_isOpen_5 sh0 rfl (ci := 7) (j := 1) rfl (Nat.le_of_ble_eq_true rfl) ixX7 q132 rfl ?_
    refine r_callV (tX3_isKept G σ  (by omega) (by omega) (by omega)) dX7_isOpen_8 svX3_isKept q224 sh4 (ci := 3) rfl rfl rfl ⟨Nat.le_of_ble_eq_true rfl, Nat.le_of_ble_eq_true rfl⟩ (Nat.le_of_ble_eq_true rfl) ⟨Nat.le_of_ble_eq_true rfl, Nat.le_of_ble_eq_true rfl⟩ ?_
    rintro _ _ ⟨⟨hq2, rfl⟩ | ⟨hq2, rfl⟩, rfl⟩
    · skip
      refine r_if_eq (tgt := 18) dX7_isOpen_11 (by decide) (by omega) (fun hb3 => ?_) (fun hb3 => ?_)
      · skip
        exact absurd hb3 (by omega)
      · skip
        refine r_iconst dX7_isOpen_14 ?_
        refine r_goto (tgt := 19) dX7_isOpen_15 (by decide) ?_
        exact r_zret dX7_isOpen_19 rfl (by first | rfl | decide) (by rw [hP]; exact ⟨by first | exact Or.inl ⟨by first | exact Or.inl (by omega) | exact Or.inr (by assumption), rfl⟩ | exact Or.inr ⟨fun q => q.elim (by omega) (by assumption), rfl⟩, by unfold opn; first | rw [if_pos (show w = 0 by omega)] | rw [if_neg (show ¬ w = 0 by omega)]⟩)
    · skip
      refine r_if_eq (tgt := 18) dX7_isOpen_11 (by decide) (by omega) (fun hb4 => ?_) (fun hb4 => ?_)
      · skip
        refine r_iconst dX7_isOpen_18 ?_
        exact r_zret dX7_isOpen_19 rfl (by first | rfl | decide) (by rw [hP]; exact ⟨by first | exact Or.inl ⟨by first | exact Or.inl (by omega) | exact Or.inr (by assumption), rfl⟩ | exact Or.inr ⟨fun q => q.elim (by omega) (by assumption), rfl⟩, by unfold opn; first | rw [if_pos (show w = 0 by omega)] | rw [if_neg (show ¬ w = 0 by omega)]⟩)
      · skip
        exact absurd hb4 (by omega)
