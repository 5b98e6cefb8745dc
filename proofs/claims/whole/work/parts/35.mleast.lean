
theorem lsF_pre {T : Int → Int} {row p q : Int} : ∀ n : Nat, (n : Int) ≤ p → lsF T row p q (fun j => j) n = -1
  | 0, _ => rfl
  | n + 1, h => by
    simp only [lsF]
    rw [lsF_pre n (by omega)]
    unfold lstep
    rw [if_neg (by omega)]
theorem lst_y {T : Int → Int} {row p q c f : Int} (hp : 0 ≤ p) (hc : p ≤ c ∧ c ≤ q) (hi : (c = p ∧ f = p) ∨ (p < c ∧ f = lsF T row p q (fun j => j) c.toNat)) (hv : T (10 * row + c) < T (10 * row + f)) : c = lsF T row p q (fun j => j) (c + 1).toNat := by
  rw [lsF_s (by omega)]
  unfold lstep
  rcases hi with ⟨h1, h2⟩ | ⟨h1, h2⟩
  · rw [h1, h2] at hv; omega
  · rw [← h2, if_pos ⟨hc.1, hc.2, Or.inr hv⟩]
theorem lst_n {T : Int → Int} {row p q c f : Int} (hp : 0 ≤ p) (hc : p ≤ c ∧ c ≤ q) (hi : (c = p ∧ f = p) ∨ (p < c ∧ f = lsF T row p q (fun j => j) c.toNat)) (hv : ¬ T (10 * row + c) < T (10 * row + f)) : f = lsF T row p q (fun j => j) (c + 1).toNat := by
  rw [lsF_s (by omega)]
  unfold lstep
  rcases hi with ⟨h1, h2⟩ | ⟨h1, h2⟩
  · rw [lsF_pre c.toNat (by omega), if_pos ⟨hc.1, hc.2, Or.inl rfl⟩]; omega
  · have hb := lsI_pos (T := T) (row := row) (p := p) (q := q) hp c.toNat (by omega) (by omega)
    rw [← h2] at hb
    rw [← h2, if_neg (fun h => by rcases h.2.2 with h | h; omega; exact hv h)]

set_option maxHeartbeats 1000000 in
set_option maxRecDepth 100000 in
theorem tX8_least (G : GT) (σ : Sg) (row p q : Int) (h : 0 ≤ row ∧ row < 10 ∧ 0 ≤ p ∧ p ≤ q ∧ q < 10) (hT : ∀ i, 0 ≤ tM (σ 47) i ∧ tM (σ 47) i ≤ 9999) : Ct G mX8_least 2 0 0 false SH SH [Rf G 46, I row, I p, I q] σ (fun rv sv => some (I (lsI (tM (σ 47)) row p q)) = rv ∧ up σ 46 9 (σ 46 9 + (q - p + 1)) = sv) := by
  obtain ⟨P, hP⟩ : ∃ P : Option Value → Sg → Prop, P = (fun rv sv => some (I (lsI (tM (σ 47)) row p q)) = rv ∧ up σ 46 9 (σ 46 9 + (q - p + 1)) = sv) := ⟨_, rfl⟩
  rw [← hP]
  refine ct_of (lv := [(0, Rf G 46), (1, I row), (2, I p), (3, I q)]) (by decide +kernel) (Nat.le_of_ble_eq_true rfl) rfl ?_
  refine r_iload_n dX8_least_0 rfl rfl ?_
  refine r_istore (lv' := [(0, Rf G 46), (1, I row), (2, I p), (3, I q), (4, I p)]) dX8_least_1 (Nat.le_of_ble_eq_true rfl) rfl ?_
  refine r_iload_n dX8_least_3 rfl rfl ?_
  refine r_istore (lv' := [(0, Rf G 46), (1, I row), (2, I p), (3, I q), (4, I p), (5, I p)]) dX8_least_4 (Nat.le_of_ble_eq_true rfl) rfl ?_
  have L6 : ∀ (mm : Nat) (f c : Int), (q + 1 - c).toNat = mm → (hc : p ≤ c ∧ c ≤ q + 1) → (hi : (c = p ∧ f = p) ∨ (p < c ∧ f = lsF (tM (σ 47)) row p q (fun j => j) c.toNat)) → (hf : p ≤ f ∧ f ≤ q) → Rn G mX8_least (rmD 2 0 0) E0 (Zn G false SH P 0 0) false SH 0 0 6 [(0, Rf G 46), (1, I row), (2, I p), (3, I q), (4, I f), (5, I c)] [] σ := by
    intro mm
    induction mm using Nat.strongRecOn with
    | _ mm ih6 =>
    intro f c hm6 hc hi hf
    refine r_iload dX8_least_6 rfl ?_
    refine r_iload_n dX8_least_8 rfl rfl ?_
    refine r_icmp_gt (tgt := 44) dX8_least_9 (by decide) (by omega) (fun hb1 => ?_) (fun hb1 => ?_)
    · skip
      refine r_aload_n dX8_least_44 rfl rfl ?_
      refine r_dup dX8_least_45 rfl ?_
      refine r_getI (z := 9) dX8_least_46 sh46 rfl (ci := 8) (j := 9) rfl (Nat.le_of_ble_eq_true rfl) rfl ixX8 q651 rfl (hv := rfl) ?_
      refine r_iload_n dX8_least_49 rfl rfl ?_
      refine r_iload_n dX8_least_50 rfl rfl ?_
      refine r_isub dX8_least_51 ?_
      refine r_iconst dX8_least_52 ?_
      refine r_iadd dX8_least_53 ?_
      refine r_iadd dX8_least_54 ?_
      refine r_putI (z := 9) tyX8 dX8_least_55 sh46 rfl (ci := 8) (j := 9) rfl (Nat.le_of_ble_eq_true rfl) rfl tyX8_ok nmX8 ixX8 q651 rfl rfl rfl ?_
      refine r_iload dX8_least_58 rfl ?_
      exact r_iret dX8_least_60 rfl (by rw [hP]; exact ⟨by unfold lsI; rw [← show f = lsF (tM (σ 47)) row p q (fun j => j) (q + 1).toNat by rcases hi with h9 | h9; omega; rw [h9.2, show c = q + 1 by omega]], rfl⟩)
    · skip
      have b1 := hT (10 * row + c)
      have b2 := hT (10 * row + f)
      refine r_aload_n dX8_least_12 rfl rfl ?_
      refine r_iload_n dX8_least_13 rfl rfl ?_
      refine r_iload dX8_least_14 rfl ?_
      refine r_callV (tX8_at G σ row c (by omega)) dX8_least_16 svX8_at q693 sh46 (ci := 8) rfl rfl rfl ⟨Nat.le_of_ble_eq_true rfl, Nat.le_of_ble_eq_true rfl⟩ (Nat.le_of_ble_eq_true rfl) ⟨Nat.le_of_ble_eq_true rfl, Nat.le_of_ble_eq_true rfl⟩ ?_
      rintro _ _ ⟨rfl, rfl⟩
      refine r_aload_n dX8_least_19 rfl rfl ?_
      refine r_iload_n dX8_least_20 rfl rfl ?_
      refine r_iload dX8_least_21 rfl ?_
      refine r_callV (tX8_at G σ row f (by omega)) dX8_least_23 svX8_at q693 sh46 (ci := 8) rfl rfl rfl ⟨Nat.le_of_ble_eq_true rfl, Nat.le_of_ble_eq_true rfl⟩ (Nat.le_of_ble_eq_true rfl) ⟨Nat.le_of_ble_eq_true rfl, Nat.le_of_ble_eq_true rfl⟩ ?_
      rintro _ _ ⟨rfl, rfl⟩
      refine r_icmp_ge (tgt := 34) dX8_least_26 (by decide) (by omega) (fun hb2 => ?_) (fun hb2 => ?_)
      · skip
        refine r_iload dX8_least_34 rfl ?_
        refine r_istore (lv' := [(0, Rf G 46), (1, I row), (2, I p), (3, I q), (4, I f), (5, I c)]) dX8_least_36 (Nat.le_of_ble_eq_true rfl) rfl ?_
        refine r_iinc (lv' := [(0, Rf G 46), (1, I row), (2, I p), (3, I q), (4, I f), (5, I (c + 1))]) dX8_least_38 (Nat.le_of_ble_eq_true rfl) rfl rfl ?_
        refine r_goto (tgt := 6) dX8_least_41 (by decide) ?_
        exact ih6 _ (by omega) _ (c + 1) rfl (by omega) (Or.inr ⟨by omega, by first | exact lst_y (by omega) (by omega) hi (by omega) | exact lst_n (by omega) (by omega) hi (by omega)⟩) (by omega)
      · skip
        refine r_iload dX8_least_29 rfl ?_
        refine r_goto (tgt := 36) dX8_least_31 (by decide) ?_
        refine r_istore (lv' := [(0, Rf G 46), (1, I row), (2, I p), (3, I q), (4, I c), (5, I c)]) dX8_least_36 (Nat.le_of_ble_eq_true rfl) rfl ?_
        refine r_iinc (lv' := [(0, Rf G 46), (1, I row), (2, I p), (3, I q), (4, I c), (5, I (c + 1))]) dX8_least_38 (Nat.le_of_ble_eq_true rfl) rfl rfl ?_
        refine r_goto (tgt := 6) dX8_least_41 (by decide) ?_
        exact ih6 _ (by omega) _ (c + 1) rfl (by omega) (Or.inr ⟨by omega, by first | exact lst_y (by omega) (by omega) hi (by omega) | exact lst_n (by omega) (by omega) hi (by omega)⟩) (by omega)
  exact L6 _ p p rfl (by omega) (Or.inl ⟨rfl, rfl⟩) (by omega)
set_option maxHeartbeats 1000000 in
set_option maxRecDepth 100000 in
theorem tX8_byAll (G : GT) (σ : Sg)  (hR : 1 ≤ σ 47 0 ∧ σ 47 0 ≤ 10) (hC : 1 ≤ σ 47 1 ∧ σ 47 1 ≤ 10) (hT : ∀ i, 0 ≤ tM (σ 47) i ∧ tM (σ 47) i ≤ 9999) : Ct G mX8_byAll 3 0 0 false SH SH [Rf G 46] σ (fun rv sv => none = rv ∧ up (ov σ 52 0 (σ 47 0) (fun j => lsI (tM (σ 47)) j 0 (σ 47 1 - 1))) 46 9 (σ 46 9 + σ 47 1 * σ 47 0) = sv) := by
  obtain ⟨P, hP⟩ : ∃ P : Option Value → Sg → Prop, P = (fun rv sv => none = rv ∧ up (ov σ 52 0 (σ 47 0) (fun j => lsI (tM (σ 47)) j 0 (σ 47 1 - 1))) 46 9 (σ 46 9 + σ 47 1 * σ 47 0) = sv) := ⟨_, rfl⟩
  rw [← hP]
  refine ct_of (lv := [(0, Rf G 46)]) (by decide +kernel) (Nat.le_of_ble_eq_true rfl) rfl ?_
  refine r_iconst dX8_byAll_0 ?_
  refine r_istore_n (lv' := [(0, Rf G 46), (1, I 0)]) dX8_byAll_1 rfl (Nat.le_of_ble_eq_true rfl) rfl ?_
  have L2 : ∀ (mm : Nat) (r : Int) (s : Sg), (σ 47 0 - r).toNat = mm → (hr : 0 ≤ r ∧ r ≤ σ 47 0) → (hS : s = up (ov σ 52 0 r (fun j => lsI (tM (σ 47)) j 0 (σ 47 1 - 1))) 46 9 (σ 46 9 + σ 47 1 * r)) → Rn G mX8_byAll (rmD 3 0 0) E0 (Zn G false SH P 0 0) false SH 0 0 2 [(0, Rf G 46), (1, I r)] [] s := by
    intro mm
    induction mm using Nat.strongRecOn with
    | _ mm ih2 =>
    intro r s hm2 hr hS
    have e47 : s 47 = σ 47 := by rw [hS, up_ne (by decide), ov_ne (by decide)]
    have f9 : s 46 9 = σ 46 9 + σ 47 1 * r := by rw [hS, up_eq]
    refine r_iload_n dX8_byAll_2 rfl rfl ?_
    refine r_aload_n dX8_byAll_3 rfl rfl ?_
    refine r_getR (b := 47) dX8_byAll_4 sh46 rfl (ci := 8) (j := 0) rfl (Nat.le_of_ble_eq_true rfl) ixX8 q642 rfl ?_
    refine r_iconst dX8_byAll_7 ?_
    refine r_iald dX8_byAll_8 sh47 (by omega) (hv := congrFun (e47) 0) ?_
    refine r_icmp_ge (tgt := 38) dX8_byAll_9 (by decide) (by omega) (fun hb1 => ?_) (fun hb1 => ?_)
    · skip
      exact r_vret dX8_byAll_38 rfl (by rw [hP]; exact ⟨rfl, by rw [hS, show r = σ 47 0 by omega]⟩)
    · skip
      refine r_aload_n dX8_byAll_12 rfl rfl ?_
      refine r_getR (b := 52) dX8_byAll_13 sh46 rfl (ci := 8) (j := 8) rfl (Nat.le_of_ble_eq_true rfl) ixX8 q650 rfl ?_
      refine r_iload_n dX8_byAll_16 rfl rfl ?_
      refine r_aload_n dX8_byAll_17 rfl rfl ?_
      refine r_iload_n dX8_byAll_18 rfl rfl ?_
      refine r_iconst dX8_byAll_19 ?_
      refine r_aload_n dX8_byAll_20 rfl rfl ?_
      refine r_getR (b := 47) dX8_byAll_21 sh46 rfl (ci := 8) (j := 0) rfl (Nat.le_of_ble_eq_true rfl) ixX8 q642 rfl ?_
      refine r_iconst dX8_byAll_24 ?_
      refine r_iald dX8_byAll_25 sh47 (by omega) (hv := congrFun (e47) 1) ?_
      refine r_iconst dX8_byAll_26 ?_
      refine r_isub dX8_byAll_27 ?_
      refine r_callV (tX8_least G s r 0 ((σ 47 1) - 1) (by omega) (by rw [e47]; exact hT)) dX8_byAll_28 svX8_least q729 sh46 (ci := 8) rfl rfl rfl ⟨Nat.le_of_ble_eq_true rfl, Nat.le_of_ble_eq_true rfl⟩ (Nat.le_of_ble_eq_true rfl) ⟨Nat.le_of_ble_eq_true rfl, Nat.le_of_ble_eq_true rfl⟩ ?_
      rintro _ _ ⟨rfl, rfl⟩
      refine r_iast dX8_byAll_31 sh52 (by omega) ?_
      refine r_iinc (lv' := [(0, Rf G 46), (1, I (r + 1))]) dX8_byAll_32 (Nat.le_of_ble_eq_true rfl) rfl rfl ?_
      refine r_goto (tgt := 2) dX8_byAll_35 (by decide) ?_
      exact ih2 _ (by omega) (r + 1) _ rfl (by omega) (by rw [f9, e47, hS, up_twice, up_comm (by decide), ov_s (by omega) rfl, Int.mul_add, Int.mul_one]; congr 1; omega)
  exact L2 _ 0 _ rfl (by omega) (by rw [Int.mul_zero, Int.add_zero, ov_0 (Int.le_refl _)]; exact (up_id rfl).symm)
