set_option maxHeartbeats 4000000 in
set_option maxRecDepth 100000 in
theorem tX7_isFromTo (G : GT) (σ : Sg) (x lo hi : Int) (h : -2147483648 ≤ x ∧ x ≤ 2147483647 ∧ -2147483648 ≤ lo ∧ lo ≤ 2147483647 ∧ -2147483648 ≤ hi ∧ hi ≤ 2147483647) : Ct G mX7_isFromTo 1 0 0 false SH SH [I x, I lo, I hi] σ (fun r s => (((lo ≤ x ∧ x ≤ hi) ∧ r = some (I 1)) ∨ (¬ (lo ≤ x ∧ x ≤ hi) ∧ r = some (I 0))) ∧ s = σ) := by
  obtain ⟨P, hP⟩ : ∃ P : Option Value → Sg → Prop, P = (fun r s => (((lo ≤ x ∧ x ≤ hi) ∧ r = some (I 1)) ∨ (¬ (lo ≤ x ∧ x ≤ hi) ∧ r = some (I 0))) ∧ s = σ) := ⟨_, rfl⟩
  rw [← hP]
  refine ct_of (lv := [(0, I x), (1, I lo), (2, I hi)]) (by decide +kernel) (Nat.le_of_ble_eq_true rfl) rfl ?_
  refine r_iload_n dX7_isFromTo_0 rfl rfl ?_
  refine r_iload_n dX7_isFromTo_1 rfl rfl ?_
  refine r_icmp_lt (tgt := 14) dX7_isFromTo_2 (by decide) (by omega) (fun hb1 => ?_) (fun hb1 => ?_)
  · skip
    refine r_iconst dX7_isFromTo_14 ?_
    exact r_zret dX7_isFromTo_15 rfl (by first | rfl | decide) (by rw [hP]; exact ⟨by first | exact Or.inl ⟨by omega, rfl⟩ | exact Or.inr ⟨by omega, rfl⟩, rfl⟩)
  · skip
    refine r_iload_n dX7_isFromTo_5 rfl rfl ?_
    refine r_iload_n dX7_isFromTo_6 rfl rfl ?_
    refine r_icmp_gt (tgt := 14) dX7_isFromTo_7 (by decide) (by omega) (fun hb2 => ?_) (fun hb2 => ?_)
    · skip
      refine r_iconst dX7_isFromTo_14 ?_
      exact r_zret dX7_isFromTo_15 rfl (by first | rfl | decide) (by rw [hP]; exact ⟨by first | exact Or.inl ⟨by omega, rfl⟩ | exact Or.inr ⟨by omega, rfl⟩, rfl⟩)
    · skip
      refine r_iconst dX7_isFromTo_10 ?_
      refine r_goto (tgt := 15) dX7_isFromTo_11 (by decide) ?_
      exact r_zret dX7_isFromTo_15 rfl (by first | rfl | decide) (by rw [hP]; exact ⟨by first | exact Or.inl ⟨by omega, rfl⟩ | exact Or.inr ⟨by omega, rfl⟩, rfl⟩)
set_option maxHeartbeats 4000000 in
set_option maxRecDepth 100000 in
theorem tX7_numberIn (G : GT) (σ : Sg) (a : Nat) (i : Int) (N : Nat) (hs : SH[a]? = some (.inr (.inl N))) (hi : -2147483648 ≤ i ∧ i ≤ 2147483647) (hN : (N : Int) ≤ 2147483647) : Ct G mX7_numberIn 1 0 0 false SH SH [Rf G a, I i] σ (fun r s => r = some (I (if 0 ≤ i ∧ i < (N : Int) then σ a i else 0)) ∧ s = σ) := by
  obtain ⟨P, hP⟩ : ∃ P : Option Value → Sg → Prop, P = (fun r s => r = some (I (if 0 ≤ i ∧ i < (N : Int) then σ a i else 0)) ∧ s = σ) := ⟨_, rfl⟩
  rw [← hP]
  refine ct_of (lv := [(0, Rf G a), (1, I i)]) (by decide +kernel) (Nat.le_of_ble_eq_true rfl) rfl ?_
  refine r_aload_n dX7_numberIn_0 rfl rfl ?_
  refine r_ifnull dX7_numberIn_1 ?_
  refine r_iload_n dX7_numberIn_4 rfl rfl ?_
  refine r_if_lt (tgt := 14) dX7_numberIn_5 (by decide) (by omega) (fun hb1 => ?_) (fun hb1 => ?_)
  · skip
    refine r_iconst dX7_numberIn_14 ?_
    refine r_goto (tgt := 21) dX7_numberIn_15 (by decide) ?_
    exact r_iret dX7_numberIn_21 rfl (by rw [hP]; exact ⟨by first | rw [if_pos (by omega)] | rw [if_neg (by omega)], rfl⟩)
  · skip
    refine r_iload_n dX7_numberIn_8 rfl rfl ?_
    refine r_aload_n dX7_numberIn_9 rfl rfl ?_
    refine r_alen dX7_numberIn_10 hs ?_
    refine r_icmp_lt (tgt := 18) dX7_numberIn_11 (by decide) (by omega) (fun hb2 => ?_) (fun hb2 => ?_)
    · skip
      refine r_aload_n dX7_numberIn_18 rfl rfl ?_
      refine r_iload_n dX7_numberIn_19 rfl rfl ?_
      refine r_iald dX7_numberIn_20 hs (by omega) (hv := rfl) ?_
      exact r_iret dX7_numberIn_21 rfl (by rw [hP]; exact ⟨by first | rw [if_pos (by omega)] | rw [if_neg (by omega)], rfl⟩)
    · skip
      refine r_iconst dX7_numberIn_14 ?_
      refine r_goto (tgt := 21) dX7_numberIn_15 (by decide) ?_
      exact r_iret dX7_numberIn_21 rfl (by rw [hP]; exact ⟨by first | rw [if_pos (by omega)] | rw [if_neg (by omega)], rfl⟩)
