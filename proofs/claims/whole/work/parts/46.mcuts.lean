
theorem Sm_a {w : Int → Int} {a : Int} : Sm w a a = 0 := by unfold Sm; omega
theorem Sm_t {w : Int → Int} {a i : Int} (h : 0 ≤ i) : Sm w a i + w i = Sm w a (i + 1) := by
  unfold Sm
  rw [wsum_s h]; omega
theorem Sm_0 {w : Int → Int} {n : Int} : Sm w 0 n = wsum w n.toNat := by
  unfold Sm
  rw [show (0 : Int).toNat = 0 from rfl]
  simp only [wsum]; omega
def nA (p a : Int) : Nat := if p = 1 then 1 else (a - (p - 1)).toNat
theorem nA_m {p m : Int} : nA p m = cntA p m := by
  unfold nA cntA
  by_cases e : p = 1
  · rw [if_pos e, if_pos e]
  · rw [if_neg e, if_neg e]; congr 1; omega
theorem pt_st {pv w : Int → Int} {p m a c l c' l' sm : Int} (hp : 1 ≤ p) (ha : p - 1 ≤ a) (hsm : sm = Sm w a m) (hpv : 0 ≤ pv a ∧ pv a ≤ 100000000) (hq : 0 ≤ sm * sm ∧ sm * sm ≤ 980100) (hcl : (a = p - 1 ∧ c = -1) ∨ (p - 1 < a ∧ (c, l) = bsF pv w (p - 1) m (nA p a) ∧ 0 ≤ c ∧ c ≤ 1000000000))
    (h : ((p = 1 → a = 0) ∧ (c = -1 ∨ pv a + sm * sm < c) ∧ c' = pv a + sm * sm ∧ l' = a) ∨ (((p = 1 ∧ ¬ a = 0) ∨ (¬ c = -1 ∧ ¬ pv a + sm * sm < c)) ∧ c' = c ∧ l' = l)) : p - 1 < a + 1 ∧ (c', l') = bsF pv w (p - 1) m (nA p (a + 1)) ∧ 0 ≤ c' ∧ c' ≤ 1000000000 := by
  refine ⟨by omega, ?_⟩
  rcases hcl with ⟨h1, h2⟩ | ⟨h1, h2, h3⟩
  · have e1 : nA p (a + 1) = (a + 1 - (p - 1)).toNat := by unfold nA; split <;> omega
    rcases h with ⟨g1, g2, g3, g4⟩ | ⟨g1, g2, g3⟩
    · rw [e1, bsF_y ha (c := c') (by rw [g3, hsm]) (by rw [show (a - (p - 1)).toNat = 0 by omega]; show c' < 1000000000; omega), g4]
      exact ⟨rfl, by omega, by omega⟩
    · exfalso; omega
  · by_cases e : p = 1
    · have e1 : nA p (a + 1) = nA p a := by unfold nA; rw [if_pos e, if_pos e]
      rcases h with ⟨g1, g2, g3, g4⟩ | ⟨g1, g2, g3⟩
      · have := g1 e; exfalso; omega
      · rw [e1, g2, g3]; exact ⟨h2, h3⟩
    · have e1 : nA p (a + 1) = (a + 1 - (p - 1)).toNat := by unfold nA; rw [if_neg e]
      have e2 : nA p a = (a - (p - 1)).toNat := by unfold nA; rw [if_neg e]
      rw [e2] at h2
      rcases h with ⟨g1, g2, g3, g4⟩ | ⟨g1, g2, g3⟩
      · rw [e1, bsF_y ha (c := c') (by rw [g3, hsm]) (by rw [← h2]; show c' < c; omega), g4]
        exact ⟨rfl, by omega, by omega⟩
      · rw [e1, bsF_n ha (c := pv a + sm * sm) (by rw [hsm]) (by rw [← h2]; show ¬ pv a + sm * sm < c; omega), g2, g3]
        exact ⟨h2, h3⟩
def PartP (σ sv : Sg) (p m : Int) : Prop := (∀ o, o ≠ 57 → o ≠ 58 → sv o = σ o) ∧ (∀ j, j ≠ 11 * p + m → sv 57 j = σ 57 j ∧ sv 58 j = σ 58 j) ∧ sv 57 (11 * p + m) = (dpC (fun i => σ 47 (6 + i)) p.toNat m).1 ∧ sv 58 (11 * p + m) = (dpC (fun i => σ 47 (6 + i)) p.toNat m).2
def CutP (σ sv : Sg) : Prop := (∀ o, o ≠ 57 → o ≠ 58 → sv o = σ o) ∧ ∀ p m, 1 ≤ p → p ≤ m → m ≤ σ 47 5 → sv 57 (11 * p + m) = (dpC (fun i => σ 47 (6 + i)) p.toNat m).1 ∧ sv 58 (11 * p + m) = (dpC (fun i => σ 47 (6 + i)) p.toNat m).2
theorem Qt.ct {σ τ : Sg} (h : CutP σ τ) : Qt σ τ := ⟨⟨fun a ha => h.1 a (by omega) (by omega), ⟨by rw [h.1 46 (by decide) (by decide)], by rw [h.1 46 (by decide) (by decide)]⟩, fun q => by unfold P52; rw [h.1 52 (by decide) (by decide)]; exact q⟩, by rw [h.1 46 (by decide) (by decide)], by rw [h.1 46 (by decide) (by decide)]⟩
theorem Qt.refl (σ : Sg) : Qt σ σ := ⟨Qm.refl σ, rfl, rfl⟩
theorem Qt.tr {σ τ υ : Sg} (h1 : Qt σ τ) (h2 : Qt τ υ) : Qt σ υ := ⟨h1.1.tr h2.1, h2.2.1.trans h1.2.1, h2.2.2.trans h1.2.2⟩
theorem dpM {σ : Sg} {p : Int} (h : 1 ≤ p ∧ p ≤ σ 47 5) : dpC (nW (st0 (σ 47))) p.toNat (σ 47 5) = dpC (fun i => σ 47 (6 + i)) p.toNat (σ 47 5) := dpC_c (n := σ 47 5) (fun r a b => rs_at (f := fun i => σ 47 (6 + i)) ⟨a, b⟩) p.toNat _ (by omega) (Int.le_refl _)
theorem shM_y {σ : Sg} (h : Kp (σ 47 0) (σ 47 1) (tM (σ 47))) : shF (st0 (σ 47)) = dvK (LW (tM (σ 47)) (σ 47 0) (σ 47 1) 1) (σ 47 1 * σ 47 0) := if_pos h
theorem shM_n {σ : Sg} (h : ¬ Kp (σ 47 0) (σ 47 1) (tM (σ 47))) : shF (st0 (σ 47)) = FP.dconst0 := if_neg h

theorem ctM {σ : Sg} {p c : Int} (hmi : IM σ) (h : 1 ≤ p ∧ p ≤ σ 47 5 ∧ 0 ≤ c) : (if p - 1 ≤ c then (-1 : Int) else ctF (nW (st0 (σ 47))) p (σ 47 5) (p - c - 1).toNat) = if p - 1 ≤ c then -1 else ctF (fun i => σ 47 (6 + i)) p (σ 47 5) (p - c - 1).toNat := by
  by_cases e : p - 1 ≤ c
  · rw [if_pos e, if_pos e]
  · rw [if_neg e, if_neg e]
    exact (ctF_c (g := (fun i => σ 47 (6 + i))) (n := σ 47 5) (fun r a b => rs_at (f := fun i => σ 47 (6 + i)) ⟨a, b⟩) hmi.us.2.2.2.2.1 hmi.us.2.2.1.2 h.2.1 (Int.le_refl _) (p - c - 1).toNat (by omega)).1
theorem fwM {σ : Sg} {m : Int} : fwF (fun q => (dpC (nW (st0 (σ 47))) q.toNat (σ 47 5)).1) m (σ 47 5).toNat = fwF (fun q => (dpC (fun i => σ 47 (6 + i)) q.toNat (σ 47 5)).1) m (σ 47 5).toNat := fwF_rs (g := (fun i => σ 47 (6 + i))) (fun r a b => rs_at (f := (fun i => σ 47 (6 + i))) ⟨a, b⟩)

set_option maxHeartbeats 1000000 in
set_option maxRecDepth 100000 in
theorem tX8_weighs (G : GT) (σ : Sg) (a b : Int) (h : 0 ≤ a ∧ a ≤ b ∧ b ≤ 10) : Ct G mX8_weighs 1 0 0 false SH SH [Rf G 46, I a, I b] σ (fun rv sv => some (I (Sm (fun i => σ 47 (6 + i)) a b)) = rv ∧ σ = sv) := by
  obtain ⟨P, hP⟩ : ∃ P : Option Value → Sg → Prop, P = (fun rv sv => some (I (Sm (fun i => σ 47 (6 + i)) a b)) = rv ∧ σ = sv) := ⟨_, rfl⟩
  rw [← hP]
  refine ct_of (lv := [(0, Rf G 46), (1, I a), (2, I b)]) (by decide +kernel) (Nat.le_of_ble_eq_true rfl) rfl ?_
  refine r_iconst dX8_weighs_0 ?_
  refine r_istore_n (lv' := [(0, Rf G 46), (1, I a), (2, I b), (3, I 0)]) dX8_weighs_1 rfl (Nat.le_of_ble_eq_true rfl) rfl ?_
  refine r_iload_n dX8_weighs_2 rfl rfl ?_
  refine r_istore (lv' := [(0, Rf G 46), (1, I a), (2, I b), (3, I 0), (4, I a)]) dX8_weighs_3 (Nat.le_of_ble_eq_true rfl) rfl ?_
  have L5 : ∀ (mm : Nat) (t i : Int), (b - i).toNat = mm → (hi : a ≤ i ∧ i ≤ b) → (ht : t = Sm (fun i => σ 47 (6 + i)) a i) → Rn G mX8_weighs (rmD 1 0 0) E0 (Zn G false SH P 0 0) false SH 0 0 5 [(0, Rf G 46), (1, I a), (2, I b), (3, I t), (4, I i)] [] σ := by
    intro mm
    induction mm using Nat.strongRecOn with
    | _ mm ih5 =>
    intro t i hm5 hi ht
    refine r_iload dX8_weighs_5 rfl ?_
    refine r_iload_n dX8_weighs_7 rfl rfl ?_
    refine r_icmp_ge (tgt := 30) dX8_weighs_8 (by decide) (by omega) (fun hb1 => ?_) (fun hb1 => ?_)
    · skip
      refine r_iload_n dX8_weighs_30 rfl rfl ?_
      exact r_iret dX8_weighs_31 rfl (by rw [hP]; exact ⟨by rw [ht, show i = b by omega], rfl⟩)
    · skip
      refine r_iload_n dX8_weighs_11 rfl rfl ?_
      refine r_aload_n dX8_weighs_12 rfl rfl ?_
      refine r_getR (b := 47) dX8_weighs_13 sh46 rfl (ci := 8) (j := 0) rfl (Nat.le_of_ble_eq_true rfl) ixX8 q642 rfl ?_
      refine r_bipush dX8_weighs_16 rfl ?_
      refine r_iload dX8_weighs_18 rfl ?_
      refine r_iadd dX8_weighs_20 ?_
      refine r_iald dX8_weighs_21 sh47 (by omega) (hv := rfl) ?_
      refine r_iadd dX8_weighs_22 ?_
      refine r_istore_n (lv' := [(0, Rf G 46), (1, I a), (2, I b), (3, I (t + (σ 47 (6 + i)))), (4, I i)]) dX8_weighs_23 rfl (Nat.le_of_ble_eq_true rfl) rfl ?_
      refine r_iinc (lv' := [(0, Rf G 46), (1, I a), (2, I b), (3, I (t + (σ 47 (6 + i)))), (4, I (i + 1))]) dX8_weighs_24 (Nat.le_of_ble_eq_true rfl) rfl rfl ?_
      refine r_goto (tgt := 5) dX8_weighs_27 (by decide) ?_
      exact ih5 _ (by omega) _ (i + 1) rfl (by omega) (by rw [ht]; exact Sm_t (w := (fun i => σ 47 (6 + i))) (by omega))
  exact L5 _ 0 _ rfl (by omega) (Sm_a.symm)
set_option maxHeartbeats 1000000 in
set_option maxRecDepth 100000 in
theorem tX8_goingBack (G : GT) (σ : Sg)  (hmi : IM σ) : Ct G mX8_goingBack 6 0 0 false SH SH [Rf G 46] σ (fun rv sv => some (I (gbk (PW (tM (σ 47)) (σ 47 0) (σ 47 1) 0) (σ 47 0 - 1).toNat)) = rv ∧ Qt σ sv) := by
  obtain ⟨P, hP⟩ : ∃ P : Option Value → Sg → Prop, P = (fun rv sv => some (I (gbk (PW (tM (σ 47)) (σ 47 0) (σ 47 1) 0) (σ 47 0 - 1).toNat)) = rv ∧ Qt σ sv) := ⟨_, rfl⟩
  rw [← hP]
  refine ct_of (lv := [(0, Rf G 46)]) (by decide +kernel) (Nat.le_of_ble_eq_true rfl) rfl ?_
  obtain ⟨hR, hC, hn, hT, hwt, hp52, h2, h6, hbf⟩ := hmi.us
  refine r_aload_n dX8_goingBack_0 rfl rfl ?_
  refine r_iconst dX8_goingBack_1 ?_
  refine r_callV (tX8_finds G σ 0 (hmi.us.1) (hmi.us.2.1) (hmi.us.2.2.2.2.2.1) (by omega) (hmi.us.2.2.2.1)) dX8_goingBack_2 svX8_finds q723 sh46 (ci := 8) rfl rfl rfl ⟨Nat.le_of_ble_eq_true rfl, Nat.le_of_ble_eq_true rfl⟩ (Nat.le_of_ble_eq_true rfl) ⟨Nat.le_of_ble_eq_true rfl, Nat.le_of_ble_eq_true rfl⟩ ?_
  rintro _ u ⟨rfl, hu⟩
  refine r_iconst dX8_goingBack_5 ?_
  refine r_istore_n (lv' := [(0, Rf G 46), (1, I 0)]) dX8_goingBack_6 rfl (Nat.le_of_ble_eq_true rfl) rfl ?_
  refine r_iconst dX8_goingBack_7 ?_
  refine r_istore_n (lv' := [(0, Rf G 46), (1, I 0), (2, I 1)]) dX8_goingBack_8 rfl (Nat.le_of_ble_eq_true rfl) rfl ?_
  have L9 : ∀ (mm : Nat) (t r : Int), (σ 47 0 - r).toNat = mm → (hr : 1 ≤ r ∧ r ≤ σ 47 0) → (ht : t = gbk (u 52) (r - 1).toNat) → Rn G mX8_goingBack (rmD 6 0 0) E0 (Zn G false SH P 0 0) false SH 0 0 9 [(0, Rf G 46), (1, I t), (2, I r)] [] u := by
    intro mm
    induction mm using Nat.strongRecOn with
    | _ mm ih9 =>
    intro t r hm9 hr ht
    refine r_iload_n dX8_goingBack_9 rfl rfl ?_
    refine r_aload_n dX8_goingBack_10 rfl rfl ?_
    refine r_getR (b := 47) dX8_goingBack_11 sh46 rfl (ci := 8) (j := 0) rfl (Nat.le_of_ble_eq_true rfl) ixX8 q642 rfl ?_
    refine r_iconst dX8_goingBack_14 ?_
    refine r_iald dX8_goingBack_15 sh47 (by omega) (hv := congrFun (hu.1 47 (by decide) (by decide)) 0) ?_
    refine r_icmp_ge (tgt := 50) dX8_goingBack_16 (by decide) (by omega) (fun hb1 => ?_) (fun hb1 => ?_)
    · skip
      refine r_iload_n dX8_goingBack_50 rfl rfl ?_
      exact r_iret dX8_goingBack_51 rfl (by rw [hP]; exact ⟨by rw [ht, show r = σ 47 0 by omega, gbk_c2 (g := u 52) _ (fun q a b => (hu.2.2.2.1 q a (by omega)).symm)], ⟨((Qm.refl σ).tr (Qm.fd hu)), (hu.2.1 7 (by decide) (by decide)), (hu.2.1 20 (by decide) (by decide))⟩⟩)
    · skip
      refine r_iload_n dX8_goingBack_19 rfl rfl ?_
      refine r_aload_n dX8_goingBack_20 rfl rfl ?_
      refine r_getR (b := 52) dX8_goingBack_21 sh46 rfl (ci := 8) (j := 8) rfl (Nat.le_of_ble_eq_true rfl) ixX8 q650 rfl ?_
      refine r_iload_n dX8_goingBack_24 rfl rfl ?_
      refine r_iald dX8_goingBack_25 sh52 (by omega) (hv := rfl) ?_
      refine r_aload_n dX8_goingBack_26 rfl rfl ?_
      refine r_getR (b := 52) dX8_goingBack_27 sh46 rfl (ci := 8) (j := 8) rfl (Nat.le_of_ble_eq_true rfl) ixX8 q650 rfl ?_
      refine r_iload_n dX8_goingBack_30 rfl rfl ?_
      refine r_iconst dX8_goingBack_31 ?_
      refine r_isub dX8_goingBack_32 ?_
      refine r_iald dX8_goingBack_33 sh52 (by omega) (hv := rfl) ?_
      have b1 := hu.2.2.2.2 r
      have b2 := hu.2.2.2.2 (r - 1)
      refine r_icmp_ge (tgt := 41) dX8_goingBack_34 (by decide) (by omega) (fun hb2 => ?_) (fun hb2 => ?_)
      · skip
        refine r_iconst dX8_goingBack_41 ?_
        refine r_iadd dX8_goingBack_42 ?_
        refine r_istore_n (lv' := [(0, Rf G 46), (1, I (t + 0)), (2, I r)]) dX8_goingBack_43 rfl (Nat.le_of_ble_eq_true rfl) rfl ?_
        refine r_iinc (lv' := [(0, Rf G 46), (1, I (t + 0)), (2, I (r + 1))]) dX8_goingBack_44 (Nat.le_of_ble_eq_true rfl) rfl rfl ?_
        refine r_goto (tgt := 9) dX8_goingBack_47 (by decide) ?_
        exact ih9 _ (by omega) _ (r + 1) rfl (by omega) (by rw [show r + 1 - 1 = r by omega, ht]; first | exact (gbk_y (pl := u 52) hr.1 (by omega)).symm | (rw [Int.add_zero]; exact (gbk_n (pl := u 52) hr.1 (by omega)).symm))
      · skip
        refine r_iconst dX8_goingBack_37 ?_
        refine r_goto (tgt := 42) dX8_goingBack_38 (by decide) ?_
        refine r_iadd dX8_goingBack_42 ?_
        refine r_istore_n (lv' := [(0, Rf G 46), (1, I (t + 1)), (2, I r)]) dX8_goingBack_43 rfl (Nat.le_of_ble_eq_true rfl) rfl ?_
        refine r_iinc (lv' := [(0, Rf G 46), (1, I (t + 1)), (2, I (r + 1))]) dX8_goingBack_44 (Nat.le_of_ble_eq_true rfl) rfl rfl ?_
        refine r_goto (tgt := 9) dX8_goingBack_47 (by decide) ?_
        exact ih9 _ (by omega) _ (r + 1) rfl (by omega) (by rw [show r + 1 - 1 = r by omega, ht]; first | exact (gbk_y (pl := u 52) hr.1 (by omega)).symm | (rw [Int.add_zero]; exact (gbk_n (pl := u 52) hr.1 (by omega)).symm))
  exact L9 _ 0 1 rfl (by omega) (rfl)
set_option maxHeartbeats 1000000 in
set_option maxRecDepth 100000 in
theorem tX8_counted (G : GT) (σ : Sg) (k : Int) (hmi : IM σ) (h : 0 ≤ k ∧ k ≤ 8) : Ct G mX8_counted 7 0 0 false SH SH [Rf G 46, I k] σ (fun rv sv => some (I (cnF (st0 (σ 47)) (σ 46 2) k)) = rv ∧ Qt σ sv) := by
  obtain ⟨P, hP⟩ : ∃ P : Option Value → Sg → Prop, P = (fun rv sv => some (I (cnF (st0 (σ 47)) (σ 46 2) k)) = rv ∧ Qt σ sv) := ⟨_, rfl⟩
  rw [← hP]
  refine ct_of (lv := [(0, Rf G 46), (1, I k)]) (by decide +kernel) (Nat.le_of_ble_eq_true rfl) rfl ?_
  obtain ⟨hR, hC, hn, hT, hwt, hp52, h2, h6, hbf⟩ := hmi.us
  refine r_iload_n dX8_counted_0 rfl rfl ?_
  have hw1 : k = 0 ∨ k = 1 ∨ k = 2 ∨ k = 3 ∨ k = 4 ∨ k = 5 ∨ k = 6 ∨ k = 7 ∨ k = 8 := by omega
  rcases hw1 with rfl | rfl | rfl | rfl | rfl | rfl | rfl | rfl | rfl
  · skip
    refine r_tableIn (off := 51) (tgt := 52) dX8_counted_1 (by omega) rfl (by decide) ?_
    refine r_aload_n dX8_counted_52 rfl rfl ?_
    refine r_getR (b := 47) dX8_counted_53 sh46 rfl (ci := 8) (j := 0) rfl (Nat.le_of_ble_eq_true rfl) ixX8 q642 rfl ?_
    refine r_iload_n dX8_counted_56 rfl rfl ?_
    refine r_iald dX8_counted_57 sh47 (by omega) (hv := rfl) ?_
    exact r_iret dX8_counted_58 rfl (by rw [hP]; exact ⟨rfl, ⟨(Qm.refl σ), rfl, rfl⟩⟩)
  · skip
    refine r_tableIn (off := 51) (tgt := 52) dX8_counted_1 (by omega) rfl (by decide) ?_
    refine r_aload_n dX8_counted_52 rfl rfl ?_
    refine r_getR (b := 47) dX8_counted_53 sh46 rfl (ci := 8) (j := 0) rfl (Nat.le_of_ble_eq_true rfl) ixX8 q642 rfl ?_
    refine r_iload_n dX8_counted_56 rfl rfl ?_
    refine r_iald dX8_counted_57 sh47 (by omega) (hv := rfl) ?_
    exact r_iret dX8_counted_58 rfl (by rw [hP]; exact ⟨rfl, ⟨(Qm.refl σ), rfl, rfl⟩⟩)
  · skip
    refine r_tableIn (off := 58) (tgt := 59) dX8_counted_1 (by omega) rfl (by decide) ?_
    refine r_aload_n dX8_counted_59 rfl rfl ?_
    refine r_getR (b := 47) dX8_counted_60 sh46 rfl (ci := 8) (j := 0) rfl (Nat.le_of_ble_eq_true rfl) ixX8 q642 rfl ?_
    refine r_iconst dX8_counted_63 ?_
    refine r_iald dX8_counted_64 sh47 (by omega) (hv := rfl) ?_
    exact r_iret dX8_counted_65 rfl (by rw [hP]; exact ⟨rfl, ⟨(Qm.refl σ), rfl, rfl⟩⟩)
  · skip
    refine r_tableIn (off := 65) (tgt := 66) dX8_counted_1 (by omega) rfl (by decide) ?_
    refine r_aload_n dX8_counted_66 rfl rfl ?_
    refine r_iconst dX8_counted_67 ?_
    refine r_aload_n dX8_counted_68 rfl rfl ?_
    refine r_getR (b := 47) dX8_counted_69 sh46 rfl (ci := 8) (j := 0) rfl (Nat.le_of_ble_eq_true rfl) ixX8 q642 rfl ?_
    refine r_iconst dX8_counted_72 ?_
    refine r_iald dX8_counted_73 sh47 (by omega) (hv := rfl) ?_
    refine r_callV (tX8_weighs G σ 0 (σ 47 5) (by omega)) dX8_counted_74 svX8_weighs q849 sh46 (ci := 8) rfl rfl rfl ⟨Nat.le_of_ble_eq_true rfl, Nat.le_of_ble_eq_true rfl⟩ (Nat.le_of_ble_eq_true rfl) ⟨Nat.le_of_ble_eq_true rfl, Nat.le_of_ble_eq_true rfl⟩ ?_
    rintro _ _ ⟨rfl, rfl⟩
    exact r_iret dX8_counted_77 rfl (by rw [hP]; exact ⟨by rw [Sm_0]; show some (I (wsum (rs (σ 47 5) (fun i => σ 47 (6 + i))) (σ 47 5).toNat)) = _; rw [wsum_c (g := (fun i => σ 47 (6 + i))) _ (fun r a b => rs_at (f := (fun i => σ 47 (6 + i))) ⟨a, by omega⟩)], ⟨(Qm.refl σ), rfl, rfl⟩⟩)
  · skip
    refine r_tableIn (off := 87) (tgt := 88) dX8_counted_1 (by omega) rfl (by decide) ?_
    refine r_aload_n dX8_counted_88 rfl rfl ?_
    refine r_getR (b := 47) dX8_counted_89 sh46 rfl (ci := 8) (j := 0) rfl (Nat.le_of_ble_eq_true rfl) ixX8 q642 rfl ?_
    refine r_iconst dX8_counted_92 ?_
    refine r_iload_n dX8_counted_93 rfl rfl ?_
    refine r_iadd dX8_counted_94 ?_
    refine r_iconst dX8_counted_95 ?_
    refine r_isub dX8_counted_96 ?_
    refine r_iald dX8_counted_97 sh47 (by omega) (hv := rfl) ?_
    exact r_iret dX8_counted_98 rfl (by rw [hP]; exact ⟨rfl, ⟨(Qm.refl σ), rfl, rfl⟩⟩)
  · skip
    refine r_tableIn (off := 87) (tgt := 88) dX8_counted_1 (by omega) rfl (by decide) ?_
    refine r_aload_n dX8_counted_88 rfl rfl ?_
    refine r_getR (b := 47) dX8_counted_89 sh46 rfl (ci := 8) (j := 0) rfl (Nat.le_of_ble_eq_true rfl) ixX8 q642 rfl ?_
    refine r_iconst dX8_counted_92 ?_
    refine r_iload_n dX8_counted_93 rfl rfl ?_
    refine r_iadd dX8_counted_94 ?_
    refine r_iconst dX8_counted_95 ?_
    refine r_isub dX8_counted_96 ?_
    refine r_iald dX8_counted_97 sh47 (by omega) (hv := rfl) ?_
    exact r_iret dX8_counted_98 rfl (by rw [hP]; exact ⟨rfl, ⟨(Qm.refl σ), rfl, rfl⟩⟩)
  · skip
    refine r_tableIn (off := 87) (tgt := 88) dX8_counted_1 (by omega) rfl (by decide) ?_
    refine r_aload_n dX8_counted_88 rfl rfl ?_
    refine r_getR (b := 47) dX8_counted_89 sh46 rfl (ci := 8) (j := 0) rfl (Nat.le_of_ble_eq_true rfl) ixX8 q642 rfl ?_
    refine r_iconst dX8_counted_92 ?_
    refine r_iload_n dX8_counted_93 rfl rfl ?_
    refine r_iadd dX8_counted_94 ?_
    refine r_iconst dX8_counted_95 ?_
    refine r_isub dX8_counted_96 ?_
    refine r_iald dX8_counted_97 sh47 (by omega) (hv := rfl) ?_
    exact r_iret dX8_counted_98 rfl (by rw [hP]; exact ⟨rfl, ⟨(Qm.refl σ), rfl, rfl⟩⟩)
  · skip
    refine r_tableIn (off := 77) (tgt := 78) dX8_counted_1 (by omega) rfl (by decide) ?_
    refine r_aload_n dX8_counted_78 rfl rfl ?_
    refine r_callV (tX8_goingBack G σ  (hmi)) dX8_counted_79 svX8_goingBack q852 sh46 (ci := 8) rfl rfl rfl ⟨Nat.le_of_ble_eq_true rfl, Nat.le_of_ble_eq_true rfl⟩ (Nat.le_of_ble_eq_true rfl) ⟨Nat.le_of_ble_eq_true rfl, Nat.le_of_ble_eq_true rfl⟩ ?_
    rintro _ s2 ⟨rfl, hq3⟩
    exact r_iret dX8_counted_82 rfl (by rw [hP]; exact ⟨rfl, ⟨((Qm.refl σ).tr hq3.1), hq3.2.1, hq3.2.2⟩⟩)
  · skip
    refine r_tableIn (off := 82) (tgt := 83) dX8_counted_1 (by omega) rfl (by decide) ?_
    refine r_aload_n dX8_counted_83 rfl rfl ?_
    refine r_getI (z := 2) dX8_counted_84 sh46 rfl (ci := 8) (j := 2) rfl (Nat.le_of_ble_eq_true rfl) rfl ixX8 q644 rfl (hv := rfl) ?_
    exact r_iret dX8_counted_87 rfl (by rw [hP]; exact ⟨rfl, ⟨(Qm.refl σ), rfl, rfl⟩⟩)
set_option maxHeartbeats 1000000 in
set_option maxRecDepth 100000 in
theorem tX8_count (G : GT) (σ : Sg) (k : Int) (hmi : IM σ) (hrg : (-2147483648 ≤ k ∧ k ≤ 2147483647)) : Ct G mX8_count 8 0 0 false SH SH [Rf G 46, I k] σ (MkP σ (oCount (absM σ) k)) := by
  obtain ⟨P, hP⟩ : ∃ P : Option Value → Sg → Prop, P = (MkP σ (oCount (absM σ) k)) := ⟨_, rfl⟩
  rw [← hP]
  refine ct_of (lv := [(0, Rf G 46), (1, I k)]) (by decide +kernel) (Nat.le_of_ble_eq_true rfl) rfl ?_
  obtain ⟨hR, hC, hn, hT, hwt, hp52, h2, h6, hbf⟩ := hmi.us
  have hO9 : OkS (st0 (σ 47)) := hmi.2.2.2.2.1
  have hhl : ((absM σ).2.1.length : Int) = σ 46 2 := by show ((hiM σ).length : Int) = _; unfold hiM; rw [List.length_map, List.length_range]; omega
  refine r_aload_n dX8_count_0 rfl rfl ?_
  refine r_iconst dX8_count_1 ?_
  refine r_putI (z := 7) tyX8 dX8_count_2 sh46 rfl (ci := 8) (j := 7) rfl (Nat.le_of_ble_eq_true rfl) rfl tyX8_ok nmX8 ixX8 q649 rfl rfl rfl ?_
  refine r_iload_n dX8_count_5 rfl rfl ?_
  refine r_iconst dX8_count_6 ?_
  refine r_bipush dX8_count_7 rfl ?_
  refine r_callS (tX8_in G (up σ 46 7 0) k 0 8 (by omega)) dX8_count_9 svX8_in q671 rfl ⟨Nat.le_of_ble_eq_true rfl, Nat.le_of_ble_eq_true rfl⟩ (Nat.le_of_ble_eq_true rfl) ⟨Nat.le_of_ble_eq_true rfl, Nat.le_of_ble_eq_true rfl⟩ ?_
  rintro _ _ ⟨⟨hq1, rfl⟩ | ⟨hq1, rfl⟩, rfl⟩
  · skip
    refine r_if_eq (tgt := 23) dX8_count_12 (by decide) (by omega) (fun hb2 => ?_) (fun hb2 => ?_)
    · skip
      exact absurd hb2 (by omega)
    · skip
      refine r_aload_n dX8_count_15 rfl rfl ?_
      refine r_iload_n dX8_count_16 rfl rfl ?_
      refine r_callV (tX8_counted G (up σ 46 7 0) k (((Qm.u7 (σ := σ) (j := 7) (v := 0) (by decide)).ci hmi)) (by omega)) dX8_count_17 svX8_counted q846 sh46 (ci := 8) rfl rfl rfl ⟨Nat.le_of_ble_eq_true rfl, Nat.le_of_ble_eq_true rfl⟩ (Nat.le_of_ble_eq_true rfl) ⟨Nat.le_of_ble_eq_true rfl, Nat.le_of_ble_eq_true rfl⟩ ?_
      rintro _ s3 ⟨rfl, hq4⟩
      rw [show (up σ 46 7 0) 47 = σ 47 from up_ne (by decide)]
      rw [show (up σ 46 7 0) 46 2 = σ 46 2 from up_nj (by decide)]
      refine r_goto (tgt := 28) dX8_count_20 (by decide) ?_
      exact r_iret dX8_count_28 rfl (by rw [hP]; exact by rw [oCount_m]; first | (rw [if_neg (by omega)]; exact ⟨rfl, ((hq4.2.1).trans (up_eq)), ((((Qm.refl σ).tr (Qm.u7 (σ := σ) (j := 7) (v := 0) (by decide))).tr hq4.1)).done hmi⟩) | (rw [if_pos (by omega), hhl]; exact ⟨rfl, ((hq4.2.1).trans (up_eq)), ((((Qm.refl σ).tr (Qm.u7 (σ := σ) (j := 7) (v := 0) (by decide))).tr hq4.1)).done hmi⟩))
  · skip
    refine r_if_eq (tgt := 23) dX8_count_12 (by decide) (by omega) (fun hb5 => ?_) (fun hb5 => ?_)
    · skip
      refine r_aload_n dX8_count_23 rfl rfl ?_
      refine r_iconst dX8_count_24 ?_
      refine r_callV (tX8_refuses G (up σ 46 7 0) 1) dX8_count_25 svX8_refuses q674 sh46 (ci := 8) rfl rfl rfl ⟨Nat.le_of_ble_eq_true rfl, Nat.le_of_ble_eq_true rfl⟩ (Nat.le_of_ble_eq_true rfl) ⟨Nat.le_of_ble_eq_true rfl, Nat.le_of_ble_eq_true rfl⟩ ?_
      rintro _ _ ⟨rfl, rfl⟩
      exact r_iret dX8_count_28 rfl (by rw [hP]; exact by rw [oCount_m]; first | (rw [if_neg (by omega)]; exact ⟨rfl, up_eq, ((((Qm.refl σ).tr (Qm.u7 (σ := σ) (j := 7) (v := 0) (by decide))).tr (Qm.u7 (σ := (up σ 46 7 0)) (j := 7) (v := 1) (by decide)))).done hmi⟩) | (rw [if_pos (by omega), hhl]; exact ⟨rfl, up_eq, ((((Qm.refl σ).tr (Qm.u7 (σ := σ) (j := 7) (v := 0) (by decide))).tr (Qm.u7 (σ := (up σ 46 7 0)) (j := 7) (v := 1) (by decide)))).done hmi⟩))
    · skip
      exact absurd hb5 (by omega)
set_option maxHeartbeats 1000000 in
set_option maxRecDepth 100000 in
theorem tX8_part (G : GT) (σ : Sg) (p m : Int) (h : 1 ≤ p ∧ p ≤ m ∧ m ≤ σ 47 5 ∧ σ 47 5 ≤ 10) (hwt : ∀ i, 0 ≤ i → i < σ 47 5 → 1 ≤ σ 47 (6 + i) ∧ σ 47 (6 + i) ≤ 99) (hrd : 2 ≤ p → ∀ a, p - 1 ≤ a → a < m → σ 57 (11 * (p - 1) + a) = (dpC (fun i => σ 47 (6 + i)) (p - 1).toNat a).1) : Ct G mX8_part 2 0 0 false SH SH [Rf G 46, I p, I m] σ (fun rv sv => none = rv ∧ PartP σ sv p m) := by
  obtain ⟨P, hP⟩ : ∃ P : Option Value → Sg → Prop, P = (fun rv sv => none = rv ∧ PartP σ sv p m) := ⟨_, rfl⟩
  rw [← hP]
  refine ct_of (lv := [(0, Rf G 46), (1, I p), (2, I m)]) (by decide +kernel) (Nat.le_of_ble_eq_true rfl) rfl ?_
  obtain ⟨pv, hpv⟩ : ∃ pv : Int → Int, pv = fun a => (dpC (fun i => σ 47 (6 + i)) (p - 1).toNat a).1 := ⟨_, rfl⟩
  have hds := dp_step (f := pv) (w := (fun i => σ 47 (6 + i))) h.1 h.2.1 (fun a _ _ => by rw [hpv])
  refine r_bipush dX8_part_0 rfl ?_
  refine r_iload_n dX8_part_2 rfl rfl ?_
  refine r_imul dX8_part_3 ?_
  refine r_iload_n dX8_part_4 rfl rfl ?_
  refine r_iadd dX8_part_5 ?_
  refine r_istore_n (lv' := [(0, Rf G 46), (1, I p), (2, I m), (3, I ((11 * p) + m))]) dX8_part_6 rfl (Nat.le_of_ble_eq_true rfl) rfl ?_
  obtain ⟨pl, hpl⟩ : ∃ z, z = (11 * p) + m := ⟨_, rfl⟩
  rw [← hpl]
  refine r_aload_n dX8_part_7 rfl rfl ?_
  refine r_getR (b := 57) dX8_part_8 sh46 rfl (ci := 8) (j := 18) rfl (Nat.le_of_ble_eq_true rfl) ixX8 q660 rfl ?_
  refine r_iload_n dX8_part_11 rfl rfl ?_
  refine r_iconst dX8_part_12 ?_
  refine r_iast dX8_part_13 sh57 (by omega) ?_
  refine r_iload_n dX8_part_14 rfl rfl ?_
  refine r_iconst dX8_part_15 ?_
  refine r_isub dX8_part_16 ?_
  refine r_istore (lv' := [(0, Rf G 46), (1, I p), (2, I m), (3, I pl), (4, I (p - 1))]) dX8_part_17 (Nat.le_of_ble_eq_true rfl) rfl ?_
  have L19 : ∀ (mm : Nat) (a c l : Int) (s : Sg), (m - a).toNat = mm → (ha : p - 1 ≤ a ∧ a ≤ m) → (hfr : ∀ o, o ≠ 57 → o ≠ 58 → s o = σ o) → (hoth : ∀ j, j ≠ pl → s 57 j = σ 57 j) → (hot8 : ∀ j, j ≠ pl → s 58 j = σ 58 j) → (hc57 : s 57 pl = c) → (hl58 : s 58 pl = l) → (hcl : (a = p - 1 ∧ c = -1) ∨ (p - 1 < a ∧ (c, l) = bsF pv (fun i => σ 47 (6 + i)) (p - 1) m (nA p a) ∧ 0 ≤ c ∧ c ≤ 1000000000)) → Rn G mX8_part (rmD 2 0 0) E0 (Zn G false SH P 0 0) false SH 0 0 19 [(0, Rf G 46), (1, I p), (2, I m), (3, I pl), (4, I a)] [] s := by
    intro mm
    induction mm using Nat.strongRecOn with
    | _ mm ih19 =>
    intro a c l s hm19 ha hfr hoth hot8 hc57 hl58 hcl
    refine r_iload dX8_part_19 rfl ?_
    refine r_iload_n dX8_part_21 rfl rfl ?_
    refine r_icmp_ge (tgt := 164) dX8_part_22 (by decide) (by omega) (fun hb1 => ?_) (fun hb1 => ?_)
    · skip
      exact r_vret dX8_part_164 rfl (by rw [hP]; exact ⟨rfl, hfr, fun j hj => by rw [← hpl] at hj; exact ⟨hoth j hj, hot8 j hj⟩, by rcases hcl with q | q; exact absurd q.1 (by omega); (rw [show a = m by omega, nA_m, hds] at q; rw [← hpl, hc57, ← q.2.1]), by rcases hcl with q | q; exact absurd q.1 (by omega); (rw [show a = m by omega, nA_m, hds] at q; rw [← hpl, hl58, ← q.2.1])⟩)
    · skip
      have hpa : 0 ≤ pv a ∧ pv a ≤ 100000000 := by
        rw [hpv]
        by_cases e : p = 1
        · rw [e]; exact ⟨Int.le_refl 0, by show (0 : Int) ≤ 100000000; decide⟩
        · have := dpC_bd (w := (fun i => σ 47 (6 + i))) (n := σ 47 5) h.2.2.2 hwt (p - 1).toNat a (by omega) (by omega) (by omega)
          show 0 ≤ (dpC _ _ a).1 ∧ (dpC _ _ a).1 ≤ 100000000
          omega
      have hp1 : p = 1 → pv a = 0 := fun e => by rw [hpv, e]; rfl
      refine r_aload_n dX8_part_25 rfl rfl ?_
      refine r_iload dX8_part_26 rfl ?_
      refine r_iload_n dX8_part_28 rfl rfl ?_
      refine r_callV (tX8_weighs G s a m (by omega)) dX8_part_29 svX8_weighs q849 sh46 (ci := 8) rfl rfl rfl ⟨Nat.le_of_ble_eq_true rfl, Nat.le_of_ble_eq_true rfl⟩ (Nat.le_of_ble_eq_true rfl) ⟨Nat.le_of_ble_eq_true rfl, Nat.le_of_ble_eq_true rfl⟩ ?_
      rintro _ _ ⟨rfl, rfl⟩
      rw [show s 47 = σ 47 from hfr 47 (by decide) (by decide)]
      refine r_istore (lv' := [(0, Rf G 46), (1, I p), (2, I m), (3, I pl), (4, I a), (5, I (Sm (fun i => σ 47 (6 + i)) a m))]) dX8_part_32 (Nat.le_of_ble_eq_true rfl) rfl ?_
      obtain ⟨sm, hsm⟩ : ∃ z, z = Sm (fun i => σ 47 (6 + i)) a m := ⟨_, rfl⟩
      rw [← hsm]
      have hsb := Sm_bd (w := (fun i => σ 47 (6 + i))) (n := σ 47 5) h.2.2.2 hwt (a := a) (b := m) (by omega) (by omega) h.2.2.1
      rw [← hsm] at hsb
      have hq := sq_bd hsb
      refine r_iload_n dX8_part_34 rfl rfl ?_
      refine r_iconst dX8_part_35 ?_
      refine r_icmp_ne (tgt := 52) dX8_part_36 (by decide) (by omega) (fun hb2 => ?_) (fun hb2 => ?_)
      · skip
        have e65 : s 57 (11 * (p - 1) + a) = pv a := by rw [hoth _ (by omega), hrd (by omega) a ha.1 (by omega), hpv]
        refine r_aload_n dX8_part_52 rfl rfl ?_
        refine r_getR (b := 57) dX8_part_53 sh46 rfl (ci := 8) (j := 18) rfl (Nat.le_of_ble_eq_true rfl) ixX8 q660 rfl ?_
        refine r_bipush dX8_part_56 rfl ?_
        refine r_iload_n dX8_part_58 rfl rfl ?_
        refine r_iconst dX8_part_59 ?_
        refine r_isub dX8_part_60 ?_
        refine r_imul dX8_part_61 ?_
        refine r_iload dX8_part_62 rfl ?_
        refine r_iadd dX8_part_64 ?_
        refine r_iald dX8_part_65 sh57 (by omega) (hv := e65) ?_
        refine r_istore (lv' := [(0, Rf G 46), (1, I p), (2, I m), (3, I pl), (4, I a), (5, I sm), (6, I (pv a))]) dX8_part_66 (Nat.le_of_ble_eq_true rfl) rfl ?_
        refine r_iload dX8_part_68 rfl ?_
        refine r_iconst dX8_part_70 ?_
        refine r_icmp_eq (tgt := 105) dX8_part_71 (by decide) (by omega) (fun hb3 => ?_) (fun hb3 => ?_)
        · skip
          refine r_iconst dX8_part_105 ?_
          refine r_istore (lv' := [(0, Rf G 46), (1, I p), (2, I m), (3, I pl), (4, I a), (5, I sm), (6, I (pv a)), (7, I 0)]) dX8_part_106 (Nat.le_of_ble_eq_true rfl) rfl ?_
          refine r_aload_n dX8_part_108 rfl rfl ?_
          refine r_getR (b := 57) dX8_part_109 sh46 rfl (ci := 8) (j := 18) rfl (Nat.le_of_ble_eq_true rfl) ixX8 q660 rfl ?_
          refine r_iload_n dX8_part_112 rfl rfl ?_
          refine r_iload dX8_part_113 rfl ?_
          refine r_if_eq (tgt := 129) dX8_part_115 (by decide) (by omega) (fun hb4 => ?_) (fun hb4 => ?_)
          · skip
            refine r_aload_n dX8_part_129 rfl rfl ?_
            refine r_getR (b := 57) dX8_part_130 sh46 rfl (ci := 8) (j := 18) rfl (Nat.le_of_ble_eq_true rfl) ixX8 q660 rfl ?_
            refine r_iload_n dX8_part_133 rfl rfl ?_
            refine r_iald dX8_part_134 sh57 (by omega) (hv := hc57) ?_
            refine r_iast dX8_part_135 sh57 (by omega) ?_
            refine r_aload_n dX8_part_136 rfl rfl ?_
            refine r_getR (b := 58) dX8_part_137 sh46 rfl (ci := 8) (j := 19) rfl (Nat.le_of_ble_eq_true rfl) ixX8 q661 rfl ?_
            refine r_iload_n dX8_part_140 rfl rfl ?_
            refine r_iload dX8_part_141 rfl ?_
            refine r_if_eq (tgt := 151) dX8_part_143 (by decide) (by omega) (fun hb5 => ?_) (fun hb5 => ?_)
            · skip
              refine r_aload_n dX8_part_151 rfl rfl ?_
              refine r_getR (b := 58) dX8_part_152 sh46 rfl (ci := 8) (j := 19) rfl (Nat.le_of_ble_eq_true rfl) ixX8 q661 rfl ?_
              refine r_iload_n dX8_part_155 rfl rfl ?_
              refine r_iald dX8_part_156 sh58 (by omega) (hv := (congrFun (up_ne (by decide)) pl).trans (hl58)) ?_
              refine r_iast dX8_part_157 sh58 (by omega) ?_
              refine r_iinc (lv' := [(0, Rf G 46), (1, I p), (2, I m), (3, I pl), (4, I (a + 1)), (5, I sm), (6, I (pv a)), (7, I 0)]) dX8_part_158 (Nat.le_of_ble_eq_true rfl) rfl rfl ?_
              refine r_goto (tgt := 19) dX8_part_161 (by decide) ?_
              refine r_sub [0, 1, 2, 3, 4] rfl ?_
              exact ih19 _ (by omega) (a + 1) c l _ rfl (by omega) (fun o a b => by rw [up_ne b, up_ne a]; exact hfr o a b) (fun j hj => by rw [up_ne (by decide), up_nj hj]; exact hoth j hj) (fun j hj => by rw [up_nj hj, up_ne (by decide)]; exact hot8 j hj) (by rw [up_ne (by decide), up_eq]) (up_eq) (Or.inr (pt_st h.1 ha.1 hsm hpa hq hcl (by first | exact Or.inl ⟨by omega, by omega, by omega, rfl⟩ | exact Or.inr ⟨by omega, rfl, rfl⟩)))
            · skip
              exact absurd hb5 (by omega)
          · skip
            exact absurd hb4 (by omega)
        · skip
          refine r_aload_n dX8_part_74 rfl rfl ?_
          refine r_getR (b := 57) dX8_part_75 sh46 rfl (ci := 8) (j := 18) rfl (Nat.le_of_ble_eq_true rfl) ixX8 q660 rfl ?_
          refine r_iload_n dX8_part_78 rfl rfl ?_
          refine r_iald dX8_part_79 sh57 (by omega) (hv := hc57) ?_
          refine r_iconst dX8_part_80 ?_
          refine r_icmp_eq (tgt := 101) dX8_part_81 (by decide) (by omega) (fun hb6 => ?_) (fun hb6 => ?_)
          · skip
            refine r_iconst dX8_part_101 ?_
            refine r_goto (tgt := 106) dX8_part_102 (by decide) ?_
            refine r_istore (lv' := [(0, Rf G 46), (1, I p), (2, I m), (3, I pl), (4, I a), (5, I sm), (6, I (pv a)), (7, I 1)]) dX8_part_106 (Nat.le_of_ble_eq_true rfl) rfl ?_
            refine r_aload_n dX8_part_108 rfl rfl ?_
            refine r_getR (b := 57) dX8_part_109 sh46 rfl (ci := 8) (j := 18) rfl (Nat.le_of_ble_eq_true rfl) ixX8 q660 rfl ?_
            refine r_iload_n dX8_part_112 rfl rfl ?_
            refine r_iload dX8_part_113 rfl ?_
            refine r_if_eq (tgt := 129) dX8_part_115 (by decide) (by omega) (fun hb7 => ?_) (fun hb7 => ?_)
            · skip
              exact absurd hb7 (by omega)
            · skip
              refine r_iload dX8_part_118 rfl ?_
              refine r_iload dX8_part_120 rfl ?_
              refine r_iload dX8_part_122 rfl ?_
              refine r_imul dX8_part_124 ?_
              refine r_iadd dX8_part_125 ?_
              refine r_goto (tgt := 135) dX8_part_126 (by decide) ?_
              refine r_iast dX8_part_135 sh57 (by omega) ?_
              refine r_aload_n dX8_part_136 rfl rfl ?_
              refine r_getR (b := 58) dX8_part_137 sh46 rfl (ci := 8) (j := 19) rfl (Nat.le_of_ble_eq_true rfl) ixX8 q661 rfl ?_
              refine r_iload_n dX8_part_140 rfl rfl ?_
              refine r_iload dX8_part_141 rfl ?_
              refine r_if_eq (tgt := 151) dX8_part_143 (by decide) (by omega) (fun hb8 => ?_) (fun hb8 => ?_)
              · skip
                exact absurd hb8 (by omega)
              · skip
                refine r_iload dX8_part_146 rfl ?_
                refine r_goto (tgt := 157) dX8_part_148 (by decide) ?_
                refine r_iast dX8_part_157 sh58 (by omega) ?_
                refine r_iinc (lv' := [(0, Rf G 46), (1, I p), (2, I m), (3, I pl), (4, I (a + 1)), (5, I sm), (6, I (pv a)), (7, I 1)]) dX8_part_158 (Nat.le_of_ble_eq_true rfl) rfl rfl ?_
                refine r_goto (tgt := 19) dX8_part_161 (by decide) ?_
                refine r_sub [0, 1, 2, 3, 4] rfl ?_
                exact ih19 _ (by omega) (a + 1) ((pv a) + (sm * sm)) a _ rfl (by omega) (fun o a b => by rw [up_ne b, up_ne a]; exact hfr o a b) (fun j hj => by rw [up_ne (by decide), up_nj hj]; exact hoth j hj) (fun j hj => by rw [up_nj hj, up_ne (by decide)]; exact hot8 j hj) (by rw [up_ne (by decide), up_eq]) (up_eq) (Or.inr (pt_st h.1 ha.1 hsm hpa hq hcl (by first | exact Or.inl ⟨by omega, by omega, by omega, rfl⟩ | exact Or.inr ⟨by omega, rfl, rfl⟩)))
          · skip
            refine r_iload dX8_part_84 rfl ?_
            refine r_iload dX8_part_86 rfl ?_
            refine r_iload dX8_part_88 rfl ?_
            refine r_imul dX8_part_90 ?_
            refine r_iadd dX8_part_91 ?_
            refine r_aload_n dX8_part_92 rfl rfl ?_
            refine r_getR (b := 57) dX8_part_93 sh46 rfl (ci := 8) (j := 18) rfl (Nat.le_of_ble_eq_true rfl) ixX8 q660 rfl ?_
            refine r_iload_n dX8_part_96 rfl rfl ?_
            refine r_iald dX8_part_97 sh57 (by omega) (hv := hc57) ?_
            refine r_icmp_ge (tgt := 105) dX8_part_98 (by decide) (by omega) (fun hb9 => ?_) (fun hb9 => ?_)
            · skip
              refine r_iconst dX8_part_105 ?_
              refine r_istore (lv' := [(0, Rf G 46), (1, I p), (2, I m), (3, I pl), (4, I a), (5, I sm), (6, I (pv a)), (7, I 0)]) dX8_part_106 (Nat.le_of_ble_eq_true rfl) rfl ?_
              refine r_aload_n dX8_part_108 rfl rfl ?_
              refine r_getR (b := 57) dX8_part_109 sh46 rfl (ci := 8) (j := 18) rfl (Nat.le_of_ble_eq_true rfl) ixX8 q660 rfl ?_
              refine r_iload_n dX8_part_112 rfl rfl ?_
              refine r_iload dX8_part_113 rfl ?_
              refine r_if_eq (tgt := 129) dX8_part_115 (by decide) (by omega) (fun hb10 => ?_) (fun hb10 => ?_)
              · skip
                refine r_aload_n dX8_part_129 rfl rfl ?_
                refine r_getR (b := 57) dX8_part_130 sh46 rfl (ci := 8) (j := 18) rfl (Nat.le_of_ble_eq_true rfl) ixX8 q660 rfl ?_
                refine r_iload_n dX8_part_133 rfl rfl ?_
                refine r_iald dX8_part_134 sh57 (by omega) (hv := hc57) ?_
                refine r_iast dX8_part_135 sh57 (by omega) ?_
                refine r_aload_n dX8_part_136 rfl rfl ?_
                refine r_getR (b := 58) dX8_part_137 sh46 rfl (ci := 8) (j := 19) rfl (Nat.le_of_ble_eq_true rfl) ixX8 q661 rfl ?_
                refine r_iload_n dX8_part_140 rfl rfl ?_
                refine r_iload dX8_part_141 rfl ?_
                refine r_if_eq (tgt := 151) dX8_part_143 (by decide) (by omega) (fun hb11 => ?_) (fun hb11 => ?_)
                · skip
                  refine r_aload_n dX8_part_151 rfl rfl ?_
                  refine r_getR (b := 58) dX8_part_152 sh46 rfl (ci := 8) (j := 19) rfl (Nat.le_of_ble_eq_true rfl) ixX8 q661 rfl ?_
                  refine r_iload_n dX8_part_155 rfl rfl ?_
                  refine r_iald dX8_part_156 sh58 (by omega) (hv := (congrFun (up_ne (by decide)) pl).trans (hl58)) ?_
                  refine r_iast dX8_part_157 sh58 (by omega) ?_
                  refine r_iinc (lv' := [(0, Rf G 46), (1, I p), (2, I m), (3, I pl), (4, I (a + 1)), (5, I sm), (6, I (pv a)), (7, I 0)]) dX8_part_158 (Nat.le_of_ble_eq_true rfl) rfl rfl ?_
                  refine r_goto (tgt := 19) dX8_part_161 (by decide) ?_
                  refine r_sub [0, 1, 2, 3, 4] rfl ?_
                  exact ih19 _ (by omega) (a + 1) c l _ rfl (by omega) (fun o a b => by rw [up_ne b, up_ne a]; exact hfr o a b) (fun j hj => by rw [up_ne (by decide), up_nj hj]; exact hoth j hj) (fun j hj => by rw [up_nj hj, up_ne (by decide)]; exact hot8 j hj) (by rw [up_ne (by decide), up_eq]) (up_eq) (Or.inr (pt_st h.1 ha.1 hsm hpa hq hcl (by first | exact Or.inl ⟨by omega, by omega, by omega, rfl⟩ | exact Or.inr ⟨by omega, rfl, rfl⟩)))
                · skip
                  exact absurd hb11 (by omega)
              · skip
                exact absurd hb10 (by omega)
            · skip
              refine r_iconst dX8_part_101 ?_
              refine r_goto (tgt := 106) dX8_part_102 (by decide) ?_
              refine r_istore (lv' := [(0, Rf G 46), (1, I p), (2, I m), (3, I pl), (4, I a), (5, I sm), (6, I (pv a)), (7, I 1)]) dX8_part_106 (Nat.le_of_ble_eq_true rfl) rfl ?_
              refine r_aload_n dX8_part_108 rfl rfl ?_
              refine r_getR (b := 57) dX8_part_109 sh46 rfl (ci := 8) (j := 18) rfl (Nat.le_of_ble_eq_true rfl) ixX8 q660 rfl ?_
              refine r_iload_n dX8_part_112 rfl rfl ?_
              refine r_iload dX8_part_113 rfl ?_
              refine r_if_eq (tgt := 129) dX8_part_115 (by decide) (by omega) (fun hb12 => ?_) (fun hb12 => ?_)
              · skip
                exact absurd hb12 (by omega)
              · skip
                refine r_iload dX8_part_118 rfl ?_
                refine r_iload dX8_part_120 rfl ?_
                refine r_iload dX8_part_122 rfl ?_
                refine r_imul dX8_part_124 ?_
                refine r_iadd dX8_part_125 ?_
                refine r_goto (tgt := 135) dX8_part_126 (by decide) ?_
                refine r_iast dX8_part_135 sh57 (by omega) ?_
                refine r_aload_n dX8_part_136 rfl rfl ?_
                refine r_getR (b := 58) dX8_part_137 sh46 rfl (ci := 8) (j := 19) rfl (Nat.le_of_ble_eq_true rfl) ixX8 q661 rfl ?_
                refine r_iload_n dX8_part_140 rfl rfl ?_
                refine r_iload dX8_part_141 rfl ?_
                refine r_if_eq (tgt := 151) dX8_part_143 (by decide) (by omega) (fun hb13 => ?_) (fun hb13 => ?_)
                · skip
                  exact absurd hb13 (by omega)
                · skip
                  refine r_iload dX8_part_146 rfl ?_
                  refine r_goto (tgt := 157) dX8_part_148 (by decide) ?_
                  refine r_iast dX8_part_157 sh58 (by omega) ?_
                  refine r_iinc (lv' := [(0, Rf G 46), (1, I p), (2, I m), (3, I pl), (4, I (a + 1)), (5, I sm), (6, I (pv a)), (7, I 1)]) dX8_part_158 (Nat.le_of_ble_eq_true rfl) rfl rfl ?_
                  refine r_goto (tgt := 19) dX8_part_161 (by decide) ?_
                  refine r_sub [0, 1, 2, 3, 4] rfl ?_
                  exact ih19 _ (by omega) (a + 1) ((pv a) + (sm * sm)) a _ rfl (by omega) (fun o a b => by rw [up_ne b, up_ne a]; exact hfr o a b) (fun j hj => by rw [up_ne (by decide), up_nj hj]; exact hoth j hj) (fun j hj => by rw [up_nj hj, up_ne (by decide)]; exact hot8 j hj) (by rw [up_ne (by decide), up_eq]) (up_eq) (Or.inr (pt_st h.1 ha.1 hsm hpa hq hcl (by first | exact Or.inl ⟨by omega, by omega, by omega, rfl⟩ | exact Or.inr ⟨by omega, rfl, rfl⟩)))
      · skip
        refine r_iload dX8_part_39 rfl ?_
        refine r_if_ne (tgt := 48) dX8_part_41 (by decide) (by omega) (fun hb14 => ?_) (fun hb14 => ?_)
        · skip
          refine r_iconst dX8_part_48 ?_
          refine r_goto (tgt := 66) dX8_part_49 (by decide) ?_
          refine r_istore (lv' := [(0, Rf G 46), (1, I p), (2, I m), (3, I pl), (4, I a), (5, I sm), (6, I (-1))]) dX8_part_66 (Nat.le_of_ble_eq_true rfl) rfl ?_
          refine r_iload dX8_part_68 rfl ?_
          refine r_iconst dX8_part_70 ?_
          refine r_icmp_eq (tgt := 105) dX8_part_71 (by decide) (by omega) (fun hb15 => ?_) (fun hb15 => ?_)
          · skip
            refine r_iconst dX8_part_105 ?_
            refine r_istore (lv' := [(0, Rf G 46), (1, I p), (2, I m), (3, I pl), (4, I a), (5, I sm), (6, I (-1)), (7, I 0)]) dX8_part_106 (Nat.le_of_ble_eq_true rfl) rfl ?_
            refine r_aload_n dX8_part_108 rfl rfl ?_
            refine r_getR (b := 57) dX8_part_109 sh46 rfl (ci := 8) (j := 18) rfl (Nat.le_of_ble_eq_true rfl) ixX8 q660 rfl ?_
            refine r_iload_n dX8_part_112 rfl rfl ?_
            refine r_iload dX8_part_113 rfl ?_
            refine r_if_eq (tgt := 129) dX8_part_115 (by decide) (by omega) (fun hb16 => ?_) (fun hb16 => ?_)
            · skip
              refine r_aload_n dX8_part_129 rfl rfl ?_
              refine r_getR (b := 57) dX8_part_130 sh46 rfl (ci := 8) (j := 18) rfl (Nat.le_of_ble_eq_true rfl) ixX8 q660 rfl ?_
              refine r_iload_n dX8_part_133 rfl rfl ?_
              refine r_iald dX8_part_134 sh57 (by omega) (hv := hc57) ?_
              refine r_iast dX8_part_135 sh57 (by omega) ?_
              refine r_aload_n dX8_part_136 rfl rfl ?_
              refine r_getR (b := 58) dX8_part_137 sh46 rfl (ci := 8) (j := 19) rfl (Nat.le_of_ble_eq_true rfl) ixX8 q661 rfl ?_
              refine r_iload_n dX8_part_140 rfl rfl ?_
              refine r_iload dX8_part_141 rfl ?_
              refine r_if_eq (tgt := 151) dX8_part_143 (by decide) (by omega) (fun hb17 => ?_) (fun hb17 => ?_)
              · skip
                refine r_aload_n dX8_part_151 rfl rfl ?_
                refine r_getR (b := 58) dX8_part_152 sh46 rfl (ci := 8) (j := 19) rfl (Nat.le_of_ble_eq_true rfl) ixX8 q661 rfl ?_
                refine r_iload_n dX8_part_155 rfl rfl ?_
                refine r_iald dX8_part_156 sh58 (by omega) (hv := (congrFun (up_ne (by decide)) pl).trans (hl58)) ?_
                refine r_iast dX8_part_157 sh58 (by omega) ?_
                refine r_iinc (lv' := [(0, Rf G 46), (1, I p), (2, I m), (3, I pl), (4, I (a + 1)), (5, I sm), (6, I (-1)), (7, I 0)]) dX8_part_158 (Nat.le_of_ble_eq_true rfl) rfl rfl ?_
                refine r_goto (tgt := 19) dX8_part_161 (by decide) ?_
                refine r_sub [0, 1, 2, 3, 4] rfl ?_
                exact ih19 _ (by omega) (a + 1) c l _ rfl (by omega) (fun o a b => by rw [up_ne b, up_ne a]; exact hfr o a b) (fun j hj => by rw [up_ne (by decide), up_nj hj]; exact hoth j hj) (fun j hj => by rw [up_nj hj, up_ne (by decide)]; exact hot8 j hj) (by rw [up_ne (by decide), up_eq]) (up_eq) (Or.inr (pt_st h.1 ha.1 hsm hpa hq hcl (by first | exact Or.inl ⟨by omega, by omega, by omega, rfl⟩ | exact Or.inr ⟨by omega, rfl, rfl⟩)))
              · skip
                exact absurd hb17 (by omega)
            · skip
              exact absurd hb16 (by omega)
          · skip
            exact absurd hb15 (by omega)
        · skip
          refine r_iconst dX8_part_44 ?_
          refine r_goto (tgt := 66) dX8_part_45 (by decide) ?_
          refine r_istore (lv' := [(0, Rf G 46), (1, I p), (2, I m), (3, I pl), (4, I a), (5, I sm), (6, I 0)]) dX8_part_66 (Nat.le_of_ble_eq_true rfl) rfl ?_
          refine r_iload dX8_part_68 rfl ?_
          refine r_iconst dX8_part_70 ?_
          refine r_icmp_eq (tgt := 105) dX8_part_71 (by decide) (by omega) (fun hb18 => ?_) (fun hb18 => ?_)
          · skip
            exact absurd hb18 (by omega)
          · skip
            refine r_aload_n dX8_part_74 rfl rfl ?_
            refine r_getR (b := 57) dX8_part_75 sh46 rfl (ci := 8) (j := 18) rfl (Nat.le_of_ble_eq_true rfl) ixX8 q660 rfl ?_
            refine r_iload_n dX8_part_78 rfl rfl ?_
            refine r_iald dX8_part_79 sh57 (by omega) (hv := hc57) ?_
            refine r_iconst dX8_part_80 ?_
            refine r_icmp_eq (tgt := 101) dX8_part_81 (by decide) (by omega) (fun hb19 => ?_) (fun hb19 => ?_)
            · skip
              refine r_iconst dX8_part_101 ?_
              refine r_goto (tgt := 106) dX8_part_102 (by decide) ?_
              refine r_istore (lv' := [(0, Rf G 46), (1, I p), (2, I m), (3, I pl), (4, I a), (5, I sm), (6, I 0), (7, I 1)]) dX8_part_106 (Nat.le_of_ble_eq_true rfl) rfl ?_
              refine r_aload_n dX8_part_108 rfl rfl ?_
              refine r_getR (b := 57) dX8_part_109 sh46 rfl (ci := 8) (j := 18) rfl (Nat.le_of_ble_eq_true rfl) ixX8 q660 rfl ?_
              refine r_iload_n dX8_part_112 rfl rfl ?_
              refine r_iload dX8_part_113 rfl ?_
              refine r_if_eq (tgt := 129) dX8_part_115 (by decide) (by omega) (fun hb20 => ?_) (fun hb20 => ?_)
              · skip
                exact absurd hb20 (by omega)
              · skip
                refine r_iload dX8_part_118 rfl ?_
                refine r_iload dX8_part_120 rfl ?_
                refine r_iload dX8_part_122 rfl ?_
                refine r_imul dX8_part_124 ?_
                refine r_iadd dX8_part_125 ?_
                refine r_goto (tgt := 135) dX8_part_126 (by decide) ?_
                refine r_iast dX8_part_135 sh57 (by omega) ?_
                refine r_aload_n dX8_part_136 rfl rfl ?_
                refine r_getR (b := 58) dX8_part_137 sh46 rfl (ci := 8) (j := 19) rfl (Nat.le_of_ble_eq_true rfl) ixX8 q661 rfl ?_
                refine r_iload_n dX8_part_140 rfl rfl ?_
                refine r_iload dX8_part_141 rfl ?_
                refine r_if_eq (tgt := 151) dX8_part_143 (by decide) (by omega) (fun hb21 => ?_) (fun hb21 => ?_)
                · skip
                  exact absurd hb21 (by omega)
                · skip
                  refine r_iload dX8_part_146 rfl ?_
                  refine r_goto (tgt := 157) dX8_part_148 (by decide) ?_
                  refine r_iast dX8_part_157 sh58 (by omega) ?_
                  refine r_iinc (lv' := [(0, Rf G 46), (1, I p), (2, I m), (3, I pl), (4, I (a + 1)), (5, I sm), (6, I 0), (7, I 1)]) dX8_part_158 (Nat.le_of_ble_eq_true rfl) rfl rfl ?_
                  refine r_goto (tgt := 19) dX8_part_161 (by decide) ?_
                  refine r_sub [0, 1, 2, 3, 4] rfl ?_
                  exact ih19 _ (by omega) (a + 1) (0 + (sm * sm)) a _ rfl (by omega) (fun o a b => by rw [up_ne b, up_ne a]; exact hfr o a b) (fun j hj => by rw [up_ne (by decide), up_nj hj]; exact hoth j hj) (fun j hj => by rw [up_nj hj, up_ne (by decide)]; exact hot8 j hj) (by rw [up_ne (by decide), up_eq]) (up_eq) (Or.inr (pt_st h.1 ha.1 hsm hpa hq hcl (by first | exact Or.inl ⟨by omega, by omega, by omega, rfl⟩ | exact Or.inr ⟨by omega, rfl, rfl⟩)))
            · skip
              refine r_iload dX8_part_84 rfl ?_
              refine r_iload dX8_part_86 rfl ?_
              refine r_iload dX8_part_88 rfl ?_
              refine r_imul dX8_part_90 ?_
              refine r_iadd dX8_part_91 ?_
              refine r_aload_n dX8_part_92 rfl rfl ?_
              refine r_getR (b := 57) dX8_part_93 sh46 rfl (ci := 8) (j := 18) rfl (Nat.le_of_ble_eq_true rfl) ixX8 q660 rfl ?_
              refine r_iload_n dX8_part_96 rfl rfl ?_
              refine r_iald dX8_part_97 sh57 (by omega) (hv := hc57) ?_
              refine r_icmp_ge (tgt := 105) dX8_part_98 (by decide) (by omega) (fun hb22 => ?_) (fun hb22 => ?_)
              · skip
                refine r_iconst dX8_part_105 ?_
                refine r_istore (lv' := [(0, Rf G 46), (1, I p), (2, I m), (3, I pl), (4, I a), (5, I sm), (6, I 0), (7, I 0)]) dX8_part_106 (Nat.le_of_ble_eq_true rfl) rfl ?_
                refine r_aload_n dX8_part_108 rfl rfl ?_
                refine r_getR (b := 57) dX8_part_109 sh46 rfl (ci := 8) (j := 18) rfl (Nat.le_of_ble_eq_true rfl) ixX8 q660 rfl ?_
                refine r_iload_n dX8_part_112 rfl rfl ?_
                refine r_iload dX8_part_113 rfl ?_
                refine r_if_eq (tgt := 129) dX8_part_115 (by decide) (by omega) (fun hb23 => ?_) (fun hb23 => ?_)
                · skip
                  refine r_aload_n dX8_part_129 rfl rfl ?_
                  refine r_getR (b := 57) dX8_part_130 sh46 rfl (ci := 8) (j := 18) rfl (Nat.le_of_ble_eq_true rfl) ixX8 q660 rfl ?_
                  refine r_iload_n dX8_part_133 rfl rfl ?_
                  refine r_iald dX8_part_134 sh57 (by omega) (hv := hc57) ?_
                  refine r_iast dX8_part_135 sh57 (by omega) ?_
                  refine r_aload_n dX8_part_136 rfl rfl ?_
                  refine r_getR (b := 58) dX8_part_137 sh46 rfl (ci := 8) (j := 19) rfl (Nat.le_of_ble_eq_true rfl) ixX8 q661 rfl ?_
                  refine r_iload_n dX8_part_140 rfl rfl ?_
                  refine r_iload dX8_part_141 rfl ?_
                  refine r_if_eq (tgt := 151) dX8_part_143 (by decide) (by omega) (fun hb24 => ?_) (fun hb24 => ?_)
                  · skip
                    refine r_aload_n dX8_part_151 rfl rfl ?_
                    refine r_getR (b := 58) dX8_part_152 sh46 rfl (ci := 8) (j := 19) rfl (Nat.le_of_ble_eq_true rfl) ixX8 q661 rfl ?_
                    refine r_iload_n dX8_part_155 rfl rfl ?_
                    refine r_iald dX8_part_156 sh58 (by omega) (hv := (congrFun (up_ne (by decide)) pl).trans (hl58)) ?_
                    refine r_iast dX8_part_157 sh58 (by omega) ?_
                    refine r_iinc (lv' := [(0, Rf G 46), (1, I p), (2, I m), (3, I pl), (4, I (a + 1)), (5, I sm), (6, I 0), (7, I 0)]) dX8_part_158 (Nat.le_of_ble_eq_true rfl) rfl rfl ?_
                    refine r_goto (tgt := 19) dX8_part_161 (by decide) ?_
                    refine r_sub [0, 1, 2, 3, 4] rfl ?_
                    exact ih19 _ (by omega) (a + 1) c l _ rfl (by omega) (fun o a b => by rw [up_ne b, up_ne a]; exact hfr o a b) (fun j hj => by rw [up_ne (by decide), up_nj hj]; exact hoth j hj) (fun j hj => by rw [up_nj hj, up_ne (by decide)]; exact hot8 j hj) (by rw [up_ne (by decide), up_eq]) (up_eq) (Or.inr (pt_st h.1 ha.1 hsm hpa hq hcl (by first | exact Or.inl ⟨by omega, by omega, by omega, rfl⟩ | exact Or.inr ⟨by omega, rfl, rfl⟩)))
                  · skip
                    exact absurd hb24 (by omega)
                · skip
                  exact absurd hb23 (by omega)
              · skip
                refine r_iconst dX8_part_101 ?_
                refine r_goto (tgt := 106) dX8_part_102 (by decide) ?_
                refine r_istore (lv' := [(0, Rf G 46), (1, I p), (2, I m), (3, I pl), (4, I a), (5, I sm), (6, I 0), (7, I 1)]) dX8_part_106 (Nat.le_of_ble_eq_true rfl) rfl ?_
                refine r_aload_n dX8_part_108 rfl rfl ?_
                refine r_getR (b := 57) dX8_part_109 sh46 rfl (ci := 8) (j := 18) rfl (Nat.le_of_ble_eq_true rfl) ixX8 q660 rfl ?_
                refine r_iload_n dX8_part_112 rfl rfl ?_
                refine r_iload dX8_part_113 rfl ?_
                refine r_if_eq (tgt := 129) dX8_part_115 (by decide) (by omega) (fun hb25 => ?_) (fun hb25 => ?_)
                · skip
                  exact absurd hb25 (by omega)
                · skip
                  refine r_iload dX8_part_118 rfl ?_
                  refine r_iload dX8_part_120 rfl ?_
                  refine r_iload dX8_part_122 rfl ?_
                  refine r_imul dX8_part_124 ?_
                  refine r_iadd dX8_part_125 ?_
                  refine r_goto (tgt := 135) dX8_part_126 (by decide) ?_
                  refine r_iast dX8_part_135 sh57 (by omega) ?_
                  refine r_aload_n dX8_part_136 rfl rfl ?_
                  refine r_getR (b := 58) dX8_part_137 sh46 rfl (ci := 8) (j := 19) rfl (Nat.le_of_ble_eq_true rfl) ixX8 q661 rfl ?_
                  refine r_iload_n dX8_part_140 rfl rfl ?_
                  refine r_iload dX8_part_141 rfl ?_
                  refine r_if_eq (tgt := 151) dX8_part_143 (by decide) (by omega) (fun hb26 => ?_) (fun hb26 => ?_)
                  · skip
                    exact absurd hb26 (by omega)
                  · skip
                    refine r_iload dX8_part_146 rfl ?_
                    refine r_goto (tgt := 157) dX8_part_148 (by decide) ?_
                    refine r_iast dX8_part_157 sh58 (by omega) ?_
                    refine r_iinc (lv' := [(0, Rf G 46), (1, I p), (2, I m), (3, I pl), (4, I (a + 1)), (5, I sm), (6, I 0), (7, I 1)]) dX8_part_158 (Nat.le_of_ble_eq_true rfl) rfl rfl ?_
                    refine r_goto (tgt := 19) dX8_part_161 (by decide) ?_
                    refine r_sub [0, 1, 2, 3, 4] rfl ?_
                    exact ih19 _ (by omega) (a + 1) (0 + (sm * sm)) a _ rfl (by omega) (fun o a b => by rw [up_ne b, up_ne a]; exact hfr o a b) (fun j hj => by rw [up_ne (by decide), up_nj hj]; exact hoth j hj) (fun j hj => by rw [up_nj hj, up_ne (by decide)]; exact hot8 j hj) (by rw [up_ne (by decide), up_eq]) (up_eq) (Or.inr (pt_st h.1 ha.1 hsm hpa hq hcl (by first | exact Or.inl ⟨by omega, by omega, by omega, rfl⟩ | exact Or.inr ⟨by omega, rfl, rfl⟩)))
  exact L19 _ _ (-1) (σ 58 pl) _ rfl (by omega) (fun o a b => by rw [up_ne a]) (fun j hj => by rw [up_nj hj]) (fun j hj => by rw [up_ne (by decide)]) (up_eq) (by rw [up_ne (by decide)]) (Or.inl ⟨rfl, rfl⟩)
set_option maxHeartbeats 1000000 in
set_option maxRecDepth 100000 in
theorem tX8_cuts (G : GT) (σ : Sg)  (hn : 1 ≤ σ 47 5 ∧ σ 47 5 ≤ 10) (hwt : ∀ i, 0 ≤ i → i < σ 47 5 → 1 ≤ σ 47 (6 + i) ∧ σ 47 (6 + i) ≤ 99) : Ct G mX8_cuts 3 0 0 false SH SH [Rf G 46] σ (fun rv sv => none = rv ∧ CutP σ sv) := by
  obtain ⟨P, hP⟩ : ∃ P : Option Value → Sg → Prop, P = (fun rv sv => none = rv ∧ CutP σ sv) := ⟨_, rfl⟩
  rw [← hP]
  refine ct_of (lv := [(0, Rf G 46)]) (by decide +kernel) (Nat.le_of_ble_eq_true rfl) rfl ?_
  refine r_iconst dX8_cuts_0 ?_
  refine r_istore_n (lv' := [(0, Rf G 46), (1, I 1)]) dX8_cuts_1 rfl (Nat.le_of_ble_eq_true rfl) rfl ?_
  have L2 : ∀ (mm : Nat) (p : Int) (u : Sg), (11 - p).toNat = mm → (hp : 1 ≤ p ∧ p ≤ σ 47 5 + 1) → (ufr : ∀ o, o ≠ 57 → o ≠ 58 → u o = σ o) → (udp : ∀ q m, 1 ≤ q → q < p → q ≤ m → m ≤ σ 47 5 → u 57 (11 * q + m) = (dpC (fun i => σ 47 (6 + i)) (q).toNat m).1 ∧ u 58 (11 * q + m) = (dpC (fun i => σ 47 (6 + i)) (q).toNat m).2) → Rn G mX8_cuts (rmD 3 0 0) E0 (Zn G false SH P 0 0) false SH 0 0 2 [(0, Rf G 46), (1, I p)] [] u := by
    intro mm
    induction mm using Nat.strongRecOn with
    | _ mm ih2 =>
    intro p u hm2 hp ufr udp
    refine r_iload_n dX8_cuts_2 rfl rfl ?_
    refine r_aload_n dX8_cuts_3 rfl rfl ?_
    refine r_getR (b := 47) dX8_cuts_4 sh46 rfl (ci := 8) (j := 0) rfl (Nat.le_of_ble_eq_true rfl) ixX8 q642 rfl ?_
    refine r_iconst dX8_cuts_7 ?_
    refine r_iald dX8_cuts_8 sh47 (by omega) (hv := congrFun (ufr 47 (by decide) (by decide)) 5) ?_
    refine r_icmp_gt (tgt := 42) dX8_cuts_9 (by decide) (by omega) (fun hb1 => ?_) (fun hb1 => ?_)
    · skip
      exact r_vret dX8_cuts_42 rfl (by rw [hP]; exact ⟨rfl, ufr, fun q m h1 h2 h3 => udp q m h1 (by omega) h2 h3⟩)
    · skip
      refine r_iload_n dX8_cuts_12 rfl rfl ?_
      refine r_istore_n (lv' := [(0, Rf G 46), (1, I p), (2, I p)]) dX8_cuts_13 rfl (Nat.le_of_ble_eq_true rfl) rfl ?_
      have L14 : ∀ (mm : Nat) (m : Int) (v : Sg), (11 - m).toNat = mm → (hm : p ≤ m ∧ m ≤ σ 47 5 + 1) → (vfr : ∀ o, o ≠ 57 → o ≠ 58 → v o = σ o) → (vdp : ∀ q m, 1 ≤ q → q < p → q ≤ m → m ≤ σ 47 5 → v 57 (11 * q + m) = (dpC (fun i => σ 47 (6 + i)) (q).toNat m).1 ∧ v 58 (11 * q + m) = (dpC (fun i => σ 47 (6 + i)) (q).toNat m).2) → (vd2 : ∀ k, p ≤ k → k < m → v 57 (11 * p + k) = (dpC (fun i => σ 47 (6 + i)) (p).toNat k).1 ∧ v 58 (11 * p + k) = (dpC (fun i => σ 47 (6 + i)) (p).toNat k).2) → Rn G mX8_cuts (rmD 3 0 0) E0 (Zn G false SH P 0 0) false SH 0 0 14 [(0, Rf G 46), (1, I p), (2, I m)] [] v := by
        intro mm
        induction mm using Nat.strongRecOn with
        | _ mm ih14 =>
        intro m v hm14 hm vfr vdp vd2
        refine r_iload_n dX8_cuts_14 rfl rfl ?_
        refine r_aload_n dX8_cuts_15 rfl rfl ?_
        refine r_getR (b := 47) dX8_cuts_16 sh46 rfl (ci := 8) (j := 0) rfl (Nat.le_of_ble_eq_true rfl) ixX8 q642 rfl ?_
        refine r_iconst dX8_cuts_19 ?_
        refine r_iald dX8_cuts_20 sh47 (by omega) (hv := congrFun (vfr 47 (by decide) (by decide)) 5) ?_
        refine r_icmp_gt (tgt := 36) dX8_cuts_21 (by decide) (by omega) (fun hb2 => ?_) (fun hb2 => ?_)
        · skip
          refine r_iinc (lv' := [(0, Rf G 46), (1, I (p + 1)), (2, I m)]) dX8_cuts_36 (Nat.le_of_ble_eq_true rfl) rfl rfl ?_
          refine r_goto (tgt := 2) dX8_cuts_39 (by decide) ?_
          refine r_sub [0, 1] rfl ?_
          exact ih2 _ (by omega) (p + 1) _ rfl (by omega) (vfr) (by intro q m9 h1 h2 h3 h4; by_cases z : q = p; (rw [z]; exact vd2 m9 (by omega) (by omega)); (exact vdp q m9 h1 (by omega) h3 h4))
        · skip
          have e47 : v 47 = σ 47 := vfr 47 (by decide) (by decide)
          refine r_aload_n dX8_cuts_24 rfl rfl ?_
          refine r_iload_n dX8_cuts_25 rfl rfl ?_
          refine r_iload_n dX8_cuts_26 rfl rfl ?_
          refine r_callV (tX8_part G v p m (by rw [e47]; omega) (by rw [e47]; exact hwt) (by rw [e47]; intro h2 a h3 h4; exact (vdp (p - 1) a (by omega) (by omega) h3 (by omega)).1)) dX8_cuts_27 svX8_part q872 sh46 (ci := 8) rfl rfl rfl ⟨Nat.le_of_ble_eq_true rfl, Nat.le_of_ble_eq_true rfl⟩ (Nat.le_of_ble_eq_true rfl) ⟨Nat.le_of_ble_eq_true rfl, Nat.le_of_ble_eq_true rfl⟩ ?_
          rintro _ w ⟨rfl, hw9⟩
          refine r_iinc (lv' := [(0, Rf G 46), (1, I p), (2, I (m + 1))]) dX8_cuts_30 (Nat.le_of_ble_eq_true rfl) rfl rfl ?_
          refine r_goto (tgt := 14) dX8_cuts_33 (by decide) ?_
          exact ih14 _ (by omega) (m + 1) _ rfl (by omega) (fun o a b => by rw [hw9.1 o a b]; exact vfr o a b) (by intro q m9 h1 h2 h3 h4; have e := hw9.2.1 (11 * q + m9) (by omega); rw [e.1, e.2]; exact vdp q m9 h1 h2 h3 h4) (by intro k h1 h2; by_cases z : k = m; (rw [z]; have e := hw9.2.2; rw [vfr 47 (by decide) (by decide)] at e; exact e); (have e := hw9.2.1 (11 * p + k) (by omega); rw [e.1, e.2]; exact vd2 k h1 (by omega)))
      exact L14 _ p _ rfl (by omega) (ufr) (udp) (fun k h1 h2 => by omega)
  exact L2 _ 1 _ rfl (by omega) (fun _ _ _ => rfl) (fun q m h1 h2 => by omega)
set_option maxHeartbeats 1000000 in
set_option maxRecDepth 100000 in
theorem tX8_isParts (G : GT) (σ : Sg) (p : Int) (h : -2147483648 ≤ p ∧ p ≤ 2147483647) (hn : 1 ≤ σ 47 5 ∧ σ 47 5 ≤ 10) : Ct G mX8_isParts 2 0 0 false SH SH [Rf G 46, I p] σ (fun rv sv => (((1 ≤ p ∧ p ≤ σ 47 5) ∧ some (I 1) = rv) ∨ (¬ (1 ≤ p ∧ p ≤ σ 47 5) ∧ some (I 0) = rv)) ∧ σ = sv) := by
  obtain ⟨P, hP⟩ : ∃ P : Option Value → Sg → Prop, P = (fun rv sv => (((1 ≤ p ∧ p ≤ σ 47 5) ∧ some (I 1) = rv) ∨ (¬ (1 ≤ p ∧ p ≤ σ 47 5) ∧ some (I 0) = rv)) ∧ σ = sv) := ⟨_, rfl⟩
  rw [← hP]
  refine ct_of (lv := [(0, Rf G 46), (1, I p)]) (by decide +kernel) (Nat.le_of_ble_eq_true rfl) rfl ?_
  refine r_iload_n dX8_isParts_0 rfl rfl ?_
  refine r_iconst dX8_isParts_1 ?_
  refine r_aload_n dX8_isParts_2 rfl rfl ?_
  refine r_getR (b := 47) dX8_isParts_3 sh46 rfl (ci := 8) (j := 0) rfl (Nat.le_of_ble_eq_true rfl) ixX8 q642 rfl ?_
  refine r_iconst dX8_isParts_6 ?_
  refine r_iald dX8_isParts_7 sh47 (by omega) (hv := rfl) ?_
  refine r_callS (tX8_in G σ p 1 (σ 47 5) (by omega)) dX8_isParts_8 svX8_in q671 rfl ⟨Nat.le_of_ble_eq_true rfl, Nat.le_of_ble_eq_true rfl⟩ (Nat.le_of_ble_eq_true rfl) ⟨Nat.le_of_ble_eq_true rfl, Nat.le_of_ble_eq_true rfl⟩ ?_
  rintro _ _ ⟨⟨hq1, rfl⟩ | ⟨hq1, rfl⟩, rfl⟩
  · skip
    exact r_zret dX8_isParts_11 rfl (by first | rfl | decide) (by rw [hP]; exact ⟨by first | exact Or.inl ⟨by omega, rfl⟩ | exact Or.inr ⟨by omega, rfl⟩, rfl⟩)
  · skip
    exact r_zret dX8_isParts_11 rfl (by first | rfl | decide) (by rw [hP]; exact ⟨by first | exact Or.inl ⟨by omega, rfl⟩ | exact Or.inr ⟨by omega, rfl⟩, rfl⟩)
set_option maxHeartbeats 1000000 in
set_option maxRecDepth 100000 in
theorem tX8_leastCost (G : GT) (σ : Sg) (p : Int) (hmi : IM σ) (h : 1 ≤ p ∧ p ≤ σ 47 5) : Ct G mX8_leastCost 4 0 0 false SH SH [Rf G 46, I p] σ (fun rv sv => some (I ((dpC (fun i => σ 47 (6 + i)) p.toNat (σ 47 5)).1)) = rv ∧ Qt σ sv) := by
  obtain ⟨P, hP⟩ : ∃ P : Option Value → Sg → Prop, P = (fun rv sv => some (I ((dpC (fun i => σ 47 (6 + i)) p.toNat (σ 47 5)).1)) = rv ∧ Qt σ sv) := ⟨_, rfl⟩
  rw [← hP]
  refine ct_of (lv := [(0, Rf G 46), (1, I p)]) (by decide +kernel) (Nat.le_of_ble_eq_true rfl) rfl ?_
  obtain ⟨hR, hC, hn, hT, hwt, hp52, h2, h6, hbf⟩ := hmi.us
  refine r_aload_n dX8_leastCost_0 rfl rfl ?_
  refine r_callV (tX8_cuts G σ (hmi.us.2.2.1) (hmi.us.2.2.2.2.1)) dX8_leastCost_1 svX8_cuts q869 sh46 (ci := 8) rfl rfl rfl ⟨Nat.le_of_ble_eq_true rfl, Nat.le_of_ble_eq_true rfl⟩ (Nat.le_of_ble_eq_true rfl) ⟨Nat.le_of_ble_eq_true rfl, Nat.le_of_ble_eq_true rfl⟩ ?_
  rintro _ t ⟨rfl, ht⟩
  refine r_aload_n dX8_leastCost_4 rfl rfl ?_
  refine r_getR (b := 57) dX8_leastCost_5 sh46 rfl (ci := 8) (j := 18) rfl (Nat.le_of_ble_eq_true rfl) ixX8 q660 rfl ?_
  refine r_bipush dX8_leastCost_8 rfl ?_
  refine r_iload_n dX8_leastCost_10 rfl rfl ?_
  refine r_imul dX8_leastCost_11 ?_
  refine r_aload_n dX8_leastCost_12 rfl rfl ?_
  refine r_getR (b := 47) dX8_leastCost_13 sh46 rfl (ci := 8) (j := 0) rfl (Nat.le_of_ble_eq_true rfl) ixX8 q642 rfl ?_
  refine r_iconst dX8_leastCost_16 ?_
  refine r_iald dX8_leastCost_17 sh47 (by omega) (hv := congrFun (ht.1 47 (by decide) (by decide)) 5) ?_
  refine r_iadd dX8_leastCost_18 ?_
  refine r_iald dX8_leastCost_19 sh57 (by omega) (hv := rfl) ?_
  exact r_iret dX8_leastCost_20 rfl (by rw [hP]; exact ⟨by rw [(ht.2 p (σ 47 5) h.1 h.2 (Int.le_refl _)).1], ⟨((Qm.refl σ).tr (Qt.ct ht).1), (congrFun (ht.1 46 (by decide) (by decide)) 7), (congrFun (ht.1 46 (by decide) (by decide)) 20)⟩⟩)
set_option maxHeartbeats 1000000 in
set_option maxRecDepth 100000 in
theorem tX8_cutAt (G : GT) (σ : Sg) (p c : Int) (hmi : IM σ) (h : 1 ≤ p ∧ p ≤ σ 47 5 ∧ 0 ≤ c ∧ c ≤ 2147483647) : Ct G mX8_cutAt 4 0 0 false SH SH [Rf G 46, I p, I c] σ (fun rv sv => some (I (if p - 1 ≤ c then -1 else ctF (fun i => σ 47 (6 + i)) p (σ 47 5) (p - c - 1).toNat)) = rv ∧ Qt σ sv) := by
  obtain ⟨P, hP⟩ : ∃ P : Option Value → Sg → Prop, P = (fun rv sv => some (I (if p - 1 ≤ c then -1 else ctF (fun i => σ 47 (6 + i)) p (σ 47 5) (p - c - 1).toNat)) = rv ∧ Qt σ sv) := ⟨_, rfl⟩
  rw [← hP]
  refine ct_of (lv := [(0, Rf G 46), (1, I p), (2, I c)]) (by decide +kernel) (Nat.le_of_ble_eq_true rfl) rfl ?_
  obtain ⟨hR, hC, hn, hT, hwt, hp52, h2, h6, hbf⟩ := hmi.us
  refine r_iload_n dX8_cutAt_0 rfl rfl ?_
  refine r_iload_n dX8_cutAt_1 rfl rfl ?_
  refine r_iconst dX8_cutAt_2 ?_
  refine r_isub dX8_cutAt_3 ?_
  refine r_icmp_lt (tgt := 9) dX8_cutAt_4 (by decide) (by omega) (fun hb1 => ?_) (fun hb1 => ?_)
  · skip
    refine r_aload_n dX8_cutAt_9 rfl rfl ?_
    refine r_callV (tX8_cuts G σ (hmi.us.2.2.1) (hmi.us.2.2.2.2.1)) dX8_cutAt_10 svX8_cuts q869 sh46 (ci := 8) rfl rfl rfl ⟨Nat.le_of_ble_eq_true rfl, Nat.le_of_ble_eq_true rfl⟩ (Nat.le_of_ble_eq_true rfl) ⟨Nat.le_of_ble_eq_true rfl, Nat.le_of_ble_eq_true rfl⟩ ?_
    rintro _ t ⟨rfl, ht⟩
    refine r_aload_n dX8_cutAt_13 rfl rfl ?_
    refine r_getR (b := 47) dX8_cutAt_14 sh46 rfl (ci := 8) (j := 0) rfl (Nat.le_of_ble_eq_true rfl) ixX8 q642 rfl ?_
    refine r_iconst dX8_cutAt_17 ?_
    refine r_iald dX8_cutAt_18 sh47 (by omega) (hv := congrFun (ht.1 47 (by decide) (by decide)) 5) ?_
    refine r_istore_n (lv' := [(0, Rf G 46), (1, I p), (2, I c), (3, I (σ 47 5))]) dX8_cutAt_19 rfl (Nat.le_of_ble_eq_true rfl) rfl ?_
    refine r_iload_n dX8_cutAt_20 rfl rfl ?_
    refine r_istore (lv' := [(0, Rf G 46), (1, I p), (2, I c), (3, I (σ 47 5)), (4, I p)]) dX8_cutAt_21 (Nat.le_of_ble_eq_true rfl) rfl ?_
    have L23 : ∀ (mm : Nat) (m l : Int), (l - c - 1).toNat = mm → (hl : c + 1 ≤ l ∧ l ≤ p) → (hm : m = ctF (fun i => σ 47 (6 + i)) p (σ 47 5) (p - l).toNat) → (hb : l ≤ m ∧ m ≤ σ 47 5) → Rn G mX8_cutAt (rmD 4 0 0) E0 (Zn G false SH P 0 0) false SH 0 0 23 [(0, Rf G 46), (1, I p), (2, I c), (3, I m), (4, I l)] [] t := by
      intro mm
      induction mm using Nat.strongRecOn with
      | _ mm ih23 =>
      intro m l hm23 hl hm hb
      refine r_iload dX8_cutAt_23 rfl ?_
      refine r_iload_n dX8_cutAt_25 rfl rfl ?_
      refine r_iconst dX8_cutAt_26 ?_
      refine r_iadd dX8_cutAt_27 ?_
      refine r_icmp_le (tgt := 50) dX8_cutAt_28 (by decide) (by omega) (fun hb2 => ?_) (fun hb2 => ?_)
      · skip
        refine r_iload_n dX8_cutAt_50 rfl rfl ?_
        exact r_iret dX8_cutAt_51 rfl (by rw [hP]; exact ⟨by rw [if_neg (by omega), hm, show l = c + 1 by omega, show p - (c + 1) = p - c - 1 by omega], ⟨((Qm.refl σ).tr (Qt.ct ht).1), (congrFun (ht.1 46 (by decide) (by decide)) 7), (congrFun (ht.1 46 (by decide) (by decide)) 20)⟩⟩)
      · skip
        refine r_aload_n dX8_cutAt_31 rfl rfl ?_
        refine r_getR (b := 58) dX8_cutAt_32 sh46 rfl (ci := 8) (j := 19) rfl (Nat.le_of_ble_eq_true rfl) ixX8 q661 rfl ?_
        refine r_bipush dX8_cutAt_35 rfl ?_
        refine r_iload dX8_cutAt_37 rfl ?_
        refine r_imul dX8_cutAt_39 ?_
        refine r_iload_n dX8_cutAt_40 rfl rfl ?_
        refine r_iadd dX8_cutAt_41 ?_
        refine r_iald dX8_cutAt_42 sh58 (by omega) (hv := rfl) ?_
        refine r_istore_n (lv' := [(0, Rf G 46), (1, I p), (2, I c), (3, I (t 58 ((11 * l) + m))), (4, I l)]) dX8_cutAt_43 rfl (Nat.le_of_ble_eq_true rfl) rfl ?_
        refine r_iinc (lv' := [(0, Rf G 46), (1, I p), (2, I c), (3, I (t 58 ((11 * l) + m))), (4, I (l + (-1)))]) dX8_cutAt_44 (Nat.le_of_ble_eq_true rfl) rfl rfl ?_
        refine r_goto (tgt := 23) dX8_cutAt_47 (by decide) ?_
        have e9 := (ht.2 l m (by omega) hb.1 hb.2).2
        have b9 := dpC_bd (w := (fun i => σ 47 (6 + i))) hn.2 hwt l.toNat m (by omega) (by omega) hb.2
        exact ih23 _ (by omega) _ (l + (-1)) rfl (by omega) (by rw [e9, ctF_s hl.2, ← hm]) (by rw [e9]; omega)
    exact L23 _ _ p rfl (by omega) (by rw [show (p - p).toNat = 0 by omega]; rfl) (by omega)
  · skip
    refine r_iconst dX8_cutAt_7 ?_
    exact r_iret dX8_cutAt_8 rfl (by rw [hP]; exact ⟨by rw [if_pos (by omega)], ⟨(Qm.refl σ), rfl, rfl⟩⟩)
set_option maxHeartbeats 1000000 in
set_option maxRecDepth 100000 in
theorem tX8_fewest (G : GT) (σ : Sg) (most : Int) (hmi : IM σ) (h : 1 ≤ most ∧ most ≤ 999999) : Ct G mX8_fewest 5 0 0 false SH SH [Rf G 46, I most] σ (fun rv sv => some (I (fwF (fun q => (dpC (fun i => σ 47 (6 + i)) q.toNat (σ 47 5)).1) most (σ 47 5).toNat)) = rv ∧ Qt σ sv) := by
  obtain ⟨P, hP⟩ : ∃ P : Option Value → Sg → Prop, P = (fun rv sv => some (I (fwF (fun q => (dpC (fun i => σ 47 (6 + i)) q.toNat (σ 47 5)).1) most (σ 47 5).toNat)) = rv ∧ Qt σ sv) := ⟨_, rfl⟩
  rw [← hP]
  refine ct_of (lv := [(0, Rf G 46), (1, I most)]) (by decide +kernel) (Nat.le_of_ble_eq_true rfl) rfl ?_
  obtain ⟨hR, hC, hn, hT, hwt, hp52, h2, h6, hbf⟩ := hmi.us
  refine r_iconst dX8_fewest_0 ?_
  refine r_istore_n (lv' := [(0, Rf G 46), (1, I most), (2, I 1)]) dX8_fewest_1 rfl (Nat.le_of_ble_eq_true rfl) rfl ?_
  have L2 : ∀ (mm : Nat) (p : Int) (s : Sg), (11 - p).toNat = mm → (hp : 1 ≤ p ∧ p ≤ σ 47 5 + 1) → (hq : Qt σ s) → (hf : fwF (fun q => (dpC (fun i => σ 47 (6 + i)) q.toNat (σ 47 5)).1) most (p - 1).toNat = -1) → Rn G mX8_fewest (rmD 5 0 0) E0 (Zn G false SH P 0 0) false SH 0 0 2 [(0, Rf G 46), (1, I most), (2, I p)] [] s := by
    intro mm
    induction mm using Nat.strongRecOn with
    | _ mm ih2 =>
    intro p s hm2 hp hq hf
    refine r_iload_n dX8_fewest_2 rfl rfl ?_
    refine r_aload_n dX8_fewest_3 rfl rfl ?_
    refine r_getR (b := 47) dX8_fewest_4 sh46 rfl (ci := 8) (j := 0) rfl (Nat.le_of_ble_eq_true rfl) ixX8 q642 rfl ?_
    refine r_iconst dX8_fewest_7 ?_
    refine r_iald dX8_fewest_8 sh47 (by omega) (hv := congrFun (hq.1.1 47 (by decide)) 5) ?_
    refine r_icmp_gt (tgt := 29) dX8_fewest_9 (by decide) (by omega) (fun hb1 => ?_) (fun hb1 => ?_)
    · skip
      refine r_iconst dX8_fewest_29 ?_
      exact r_iret dX8_fewest_30 rfl (by rw [hP]; exact ⟨by rw [show (σ 47 5).toNat = (p - 1).toNat by omega, hf], hq⟩)
    · skip
      have b9 := dpC_bd (w := (fun i => σ 47 (6 + i))) hn.2 hwt p.toNat (σ 47 5) (by omega) (by omega) (by omega)
      refine r_aload_n dX8_fewest_12 rfl rfl ?_
      refine r_iload_n dX8_fewest_13 rfl rfl ?_
      refine r_callV (tX8_leastCost G s p ((hq.1.ci hmi)) (by rw [hq.1.1 47 (by decide)]; omega)) dX8_fewest_14 svX8_leastCost q866 sh46 (ci := 8) rfl rfl rfl ⟨Nat.le_of_ble_eq_true rfl, Nat.le_of_ble_eq_true rfl⟩ (Nat.le_of_ble_eq_true rfl) ⟨Nat.le_of_ble_eq_true rfl, Nat.le_of_ble_eq_true rfl⟩ ?_
      rintro _ t ⟨rfl, ht⟩
      rw [show s 47 = σ 47 from hq.1.1 47 (by decide)]
      refine r_iload_n dX8_fewest_17 rfl rfl ?_
      refine r_icmp_gt (tgt := 23) dX8_fewest_18 (by decide) (by omega) (fun hb2 => ?_) (fun hb2 => ?_)
      · skip
        refine r_iinc (lv' := [(0, Rf G 46), (1, I most), (2, I (p + 1))]) dX8_fewest_23 (Nat.le_of_ble_eq_true rfl) rfl rfl ?_
        refine r_goto (tgt := 2) dX8_fewest_26 (by decide) ?_
        exact ih2 _ (by omega) (p + 1) _ rfl (by omega) (hq.tr ht) (by rw [show p + 1 - 1 = p by omega]; exact fwF_n hp.1 hf (by show ¬ (dpC (fun i => σ 47 (6 + i)) p.toNat (σ 47 5)).1 ≤ most; omega))
      · skip
        refine r_iload_n dX8_fewest_21 rfl rfl ?_
        exact r_iret dX8_fewest_22 rfl (by rw [hP]; exact ⟨by rw [fwF_is hp.1 (by omega) hf (by show (dpC (fun i => σ 47 (6 + i)) p.toNat (σ 47 5)).1 ≤ most; omega)], hq.tr ht⟩)
  exact L2 _ 1 _ rfl (by omega) (Qt.refl σ) (rfl)
set_option maxHeartbeats 1000000 in
set_option maxRecDepth 100000 in
theorem tX8_cost (G : GT) (σ : Sg) (p k : Int) (hmi : IM σ) (hrg : (-2147483648 ≤ p ∧ p ≤ 2147483647) ∧ (-2147483648 ≤ k ∧ k ≤ 2147483647)) : Ct G mX8_cost 5 0 0 false SH SH [Rf G 46, I p, I k] σ (MkP σ (oCost (absM σ) p k)) := by
  obtain ⟨P, hP⟩ : ∃ P : Option Value → Sg → Prop, P = (MkP σ (oCost (absM σ) p k)) := ⟨_, rfl⟩
  rw [← hP]
  refine ct_of (lv := [(0, Rf G 46), (1, I p), (2, I k)]) (by decide +kernel) (Nat.le_of_ble_eq_true rfl) rfl ?_
  obtain ⟨hR, hC, hn, hT, hwt, hp52, h2, h6, hbf⟩ := hmi.us
  have hO9 : OkS (st0 (σ 47)) := hmi.2.2.2.2.1
  refine r_aload_n dX8_cost_0 rfl rfl ?_
  refine r_iconst dX8_cost_1 ?_
  refine r_putI (z := 7) tyX8 dX8_cost_2 sh46 rfl (ci := 8) (j := 7) rfl (Nat.le_of_ble_eq_true rfl) rfl tyX8_ok nmX8 ixX8 q649 rfl rfl rfl ?_
  refine r_aload_n dX8_cost_5 rfl rfl ?_
  refine r_iload_n dX8_cost_6 rfl rfl ?_
  refine r_callV (tX8_isParts G (up σ 46 7 0) p (by omega) (((Qm.u7 (σ := σ) (j := 7) (v := 0) (by decide)).ci hmi).us.2.2.1)) dX8_cost_7 svX8_isParts q863 sh46 (ci := 8) rfl rfl rfl ⟨Nat.le_of_ble_eq_true rfl, Nat.le_of_ble_eq_true rfl⟩ (Nat.le_of_ble_eq_true rfl) ⟨Nat.le_of_ble_eq_true rfl, Nat.le_of_ble_eq_true rfl⟩ ?_
  rintro _ _ ⟨⟨hq1, rfl⟩ | ⟨hq1, rfl⟩, rfl⟩
  · skip
    rw [up_ne (by decide)] at hq1
    refine r_if_eq (tgt := 30) dX8_cost_10 (by decide) (by omega) (fun hb2 => ?_) (fun hb2 => ?_)
    · skip
      exact absurd hb2 (by omega)
    · skip
      refine r_iload_n dX8_cost_13 rfl rfl ?_
      refine r_iconst dX8_cost_14 ?_
      refine r_iconst dX8_cost_15 ?_
      refine r_callS (tX8_in G (up σ 46 7 0) k 0 1 (by omega)) dX8_cost_16 svX8_in q671 rfl ⟨Nat.le_of_ble_eq_true rfl, Nat.le_of_ble_eq_true rfl⟩ (Nat.le_of_ble_eq_true rfl) ⟨Nat.le_of_ble_eq_true rfl, Nat.le_of_ble_eq_true rfl⟩ ?_
      rintro _ _ ⟨⟨hq3, rfl⟩ | ⟨hq3, rfl⟩, rfl⟩
      · skip
        refine r_if_eq (tgt := 30) dX8_cost_19 (by decide) (by omega) (fun hb4 => ?_) (fun hb4 => ?_)
        · skip
          exact absurd hb4 (by omega)
        · skip
          refine r_aload_n dX8_cost_22 rfl rfl ?_
          refine r_iload_n dX8_cost_23 rfl rfl ?_
          refine r_callV (tX8_leastCost G (up σ 46 7 0) p (((Qm.u7 (σ := σ) (j := 7) (v := 0) (by decide)).ci hmi)) (by rw [up_ne (by decide)]; omega)) dX8_cost_24 svX8_leastCost q866 sh46 (ci := 8) rfl rfl rfl ⟨Nat.le_of_ble_eq_true rfl, Nat.le_of_ble_eq_true rfl⟩ (Nat.le_of_ble_eq_true rfl) ⟨Nat.le_of_ble_eq_true rfl, Nat.le_of_ble_eq_true rfl⟩ ?_
          rintro _ s5 ⟨rfl, hq6⟩
          rw [show (up σ 46 7 0) 47 = σ 47 from up_ne (by decide)]
          refine r_goto (tgt := 35) dX8_cost_27 (by decide) ?_
          exact r_iret dX8_cost_35 rfl (by rw [hP]; exact by rw [oCost_m]; first | (rw [if_neg (by omega)]; exact ⟨rfl, ((hq6.2.1).trans (up_eq)), ((((Qm.refl σ).tr (Qm.u7 (σ := σ) (j := 7) (v := 0) (by decide))).tr hq6.1)).done hmi⟩) | (rw [if_pos (by omega), dpM (by omega)]; exact ⟨rfl, ((hq6.2.1).trans (up_eq)), ((((Qm.refl σ).tr (Qm.u7 (σ := σ) (j := 7) (v := 0) (by decide))).tr hq6.1)).done hmi⟩))
      · skip
        refine r_if_eq (tgt := 30) dX8_cost_19 (by decide) (by omega) (fun hb7 => ?_) (fun hb7 => ?_)
        · skip
          refine r_aload_n dX8_cost_30 rfl rfl ?_
          refine r_iconst dX8_cost_31 ?_
          refine r_callV (tX8_refuses G (up σ 46 7 0) 1) dX8_cost_32 svX8_refuses q674 sh46 (ci := 8) rfl rfl rfl ⟨Nat.le_of_ble_eq_true rfl, Nat.le_of_ble_eq_true rfl⟩ (Nat.le_of_ble_eq_true rfl) ⟨Nat.le_of_ble_eq_true rfl, Nat.le_of_ble_eq_true rfl⟩ ?_
          rintro _ _ ⟨rfl, rfl⟩
          exact r_iret dX8_cost_35 rfl (by rw [hP]; exact by rw [oCost_m]; first | (rw [if_neg (by omega)]; exact ⟨rfl, up_eq, ((((Qm.refl σ).tr (Qm.u7 (σ := σ) (j := 7) (v := 0) (by decide))).tr (Qm.u7 (σ := (up σ 46 7 0)) (j := 7) (v := 1) (by decide)))).done hmi⟩) | (rw [if_pos (by omega), dpM (by omega)]; exact ⟨rfl, up_eq, ((((Qm.refl σ).tr (Qm.u7 (σ := σ) (j := 7) (v := 0) (by decide))).tr (Qm.u7 (σ := (up σ 46 7 0)) (j := 7) (v := 1) (by decide)))).done hmi⟩))
        · skip
          exact absurd hb7 (by omega)
  · skip
    rw [up_ne (by decide)] at hq1
    refine r_if_eq (tgt := 30) dX8_cost_10 (by decide) (by omega) (fun hb8 => ?_) (fun hb8 => ?_)
    · skip
      refine r_aload_n dX8_cost_30 rfl rfl ?_
      refine r_iconst dX8_cost_31 ?_
      refine r_callV (tX8_refuses G (up σ 46 7 0) 1) dX8_cost_32 svX8_refuses q674 sh46 (ci := 8) rfl rfl rfl ⟨Nat.le_of_ble_eq_true rfl, Nat.le_of_ble_eq_true rfl⟩ (Nat.le_of_ble_eq_true rfl) ⟨Nat.le_of_ble_eq_true rfl, Nat.le_of_ble_eq_true rfl⟩ ?_
      rintro _ _ ⟨rfl, rfl⟩
      exact r_iret dX8_cost_35 rfl (by rw [hP]; exact by rw [oCost_m]; first | (rw [if_neg (by omega)]; exact ⟨rfl, up_eq, ((((Qm.refl σ).tr (Qm.u7 (σ := σ) (j := 7) (v := 0) (by decide))).tr (Qm.u7 (σ := (up σ 46 7 0)) (j := 7) (v := 1) (by decide)))).done hmi⟩) | (rw [if_pos (by omega), dpM (by omega)]; exact ⟨rfl, up_eq, ((((Qm.refl σ).tr (Qm.u7 (σ := σ) (j := 7) (v := 0) (by decide))).tr (Qm.u7 (σ := (up σ 46 7 0)) (j := 7) (v := 1) (by decide)))).done hmi⟩))
    · skip
      exact absurd hb8 (by omega)
set_option maxHeartbeats 1000000 in
set_option maxRecDepth 100000 in
theorem tX8_cut (G : GT) (σ : Sg) (p c : Int) (hmi : IM σ) (hrg : (-2147483648 ≤ p ∧ p ≤ 2147483647) ∧ (-2147483648 ≤ c ∧ c ≤ 2147483647)) : Ct G mX8_cut 5 0 0 false SH SH [Rf G 46, I p, I c] σ (MkP σ (oCut (absM σ) p c)) := by
  obtain ⟨P, hP⟩ : ∃ P : Option Value → Sg → Prop, P = (MkP σ (oCut (absM σ) p c)) := ⟨_, rfl⟩
  rw [← hP]
  refine ct_of (lv := [(0, Rf G 46), (1, I p), (2, I c)]) (by decide +kernel) (Nat.le_of_ble_eq_true rfl) rfl ?_
  obtain ⟨hR, hC, hn, hT, hwt, hp52, h2, h6, hbf⟩ := hmi.us
  have hO9 : OkS (st0 (σ 47)) := hmi.2.2.2.2.1
  refine r_aload_n dX8_cut_0 rfl rfl ?_
  refine r_iconst dX8_cut_1 ?_
  refine r_putI (z := 7) tyX8 dX8_cut_2 sh46 rfl (ci := 8) (j := 7) rfl (Nat.le_of_ble_eq_true rfl) rfl tyX8_ok nmX8 ixX8 q649 rfl rfl rfl ?_
  refine r_aload_n dX8_cut_5 rfl rfl ?_
  refine r_iload_n dX8_cut_6 rfl rfl ?_
  refine r_callV (tX8_isParts G (up σ 46 7 0) p (by omega) (((Qm.u7 (σ := σ) (j := 7) (v := 0) (by decide)).ci hmi).us.2.2.1)) dX8_cut_7 svX8_isParts q863 sh46 (ci := 8) rfl rfl rfl ⟨Nat.le_of_ble_eq_true rfl, Nat.le_of_ble_eq_true rfl⟩ (Nat.le_of_ble_eq_true rfl) ⟨Nat.le_of_ble_eq_true rfl, Nat.le_of_ble_eq_true rfl⟩ ?_
  rintro _ _ ⟨⟨hq1, rfl⟩ | ⟨hq1, rfl⟩, rfl⟩
  · skip
    rw [up_ne (by decide)] at hq1
    refine r_if_eq (tgt := 26) dX8_cut_10 (by decide) (by omega) (fun hb2 => ?_) (fun hb2 => ?_)
    · skip
      exact absurd hb2 (by omega)
    · skip
      refine r_iload_n dX8_cut_13 rfl rfl ?_
      refine r_if_lt (tgt := 26) dX8_cut_14 (by decide) (by omega) (fun hb3 => ?_) (fun hb3 => ?_)
      · skip
        refine r_aload_n dX8_cut_26 rfl rfl ?_
        refine r_iconst dX8_cut_27 ?_
        refine r_callV (tX8_refuses G (up σ 46 7 0) 1) dX8_cut_28 svX8_refuses q674 sh46 (ci := 8) rfl rfl rfl ⟨Nat.le_of_ble_eq_true rfl, Nat.le_of_ble_eq_true rfl⟩ (Nat.le_of_ble_eq_true rfl) ⟨Nat.le_of_ble_eq_true rfl, Nat.le_of_ble_eq_true rfl⟩ ?_
        rintro _ _ ⟨rfl, rfl⟩
        exact r_iret dX8_cut_31 rfl (by rw [hP]; exact by rw [oCut_m]; first | (rw [if_neg (by omega)]; exact ⟨rfl, up_eq, ((((Qm.refl σ).tr (Qm.u7 (σ := σ) (j := 7) (v := 0) (by decide))).tr (Qm.u7 (σ := (up σ 46 7 0)) (j := 7) (v := 1) (by decide)))).done hmi⟩) | (rw [if_pos (by omega), ctM hmi (by omega)]; exact ⟨rfl, up_eq, ((((Qm.refl σ).tr (Qm.u7 (σ := σ) (j := 7) (v := 0) (by decide))).tr (Qm.u7 (σ := (up σ 46 7 0)) (j := 7) (v := 1) (by decide)))).done hmi⟩))
      · skip
        refine r_aload_n dX8_cut_17 rfl rfl ?_
        refine r_iload_n dX8_cut_18 rfl rfl ?_
        refine r_iload_n dX8_cut_19 rfl rfl ?_
        refine r_callV (tX8_cutAt G (up σ 46 7 0) p c (((Qm.u7 (σ := σ) (j := 7) (v := 0) (by decide)).ci hmi)) (by rw [up_ne (by decide)]; omega)) dX8_cut_20 svX8_cutAt q879 sh46 (ci := 8) rfl rfl rfl ⟨Nat.le_of_ble_eq_true rfl, Nat.le_of_ble_eq_true rfl⟩ (Nat.le_of_ble_eq_true rfl) ⟨Nat.le_of_ble_eq_true rfl, Nat.le_of_ble_eq_true rfl⟩ ?_
        rintro _ s4 ⟨rfl, hq5⟩
        rw [show (up σ 46 7 0) 47 = σ 47 from up_ne (by decide)]
        refine r_goto (tgt := 31) dX8_cut_23 (by decide) ?_
        exact r_iret dX8_cut_31 rfl (by rw [hP]; exact by rw [oCut_m]; first | (rw [if_neg (by omega)]; exact ⟨rfl, ((hq5.2.1).trans (up_eq)), ((((Qm.refl σ).tr (Qm.u7 (σ := σ) (j := 7) (v := 0) (by decide))).tr hq5.1)).done hmi⟩) | (rw [if_pos (by omega), ctM hmi (by omega)]; exact ⟨rfl, ((hq5.2.1).trans (up_eq)), ((((Qm.refl σ).tr (Qm.u7 (σ := σ) (j := 7) (v := 0) (by decide))).tr hq5.1)).done hmi⟩))
  · skip
    rw [up_ne (by decide)] at hq1
    refine r_if_eq (tgt := 26) dX8_cut_10 (by decide) (by omega) (fun hb6 => ?_) (fun hb6 => ?_)
    · skip
      refine r_aload_n dX8_cut_26 rfl rfl ?_
      refine r_iconst dX8_cut_27 ?_
      refine r_callV (tX8_refuses G (up σ 46 7 0) 1) dX8_cut_28 svX8_refuses q674 sh46 (ci := 8) rfl rfl rfl ⟨Nat.le_of_ble_eq_true rfl, Nat.le_of_ble_eq_true rfl⟩ (Nat.le_of_ble_eq_true rfl) ⟨Nat.le_of_ble_eq_true rfl, Nat.le_of_ble_eq_true rfl⟩ ?_
      rintro _ _ ⟨rfl, rfl⟩
      exact r_iret dX8_cut_31 rfl (by rw [hP]; exact by rw [oCut_m]; first | (rw [if_neg (by omega)]; exact ⟨rfl, up_eq, ((((Qm.refl σ).tr (Qm.u7 (σ := σ) (j := 7) (v := 0) (by decide))).tr (Qm.u7 (σ := (up σ 46 7 0)) (j := 7) (v := 1) (by decide)))).done hmi⟩) | (rw [if_pos (by omega), ctM hmi (by omega)]; exact ⟨rfl, up_eq, ((((Qm.refl σ).tr (Qm.u7 (σ := σ) (j := 7) (v := 0) (by decide))).tr (Qm.u7 (σ := (up σ 46 7 0)) (j := 7) (v := 1) (by decide)))).done hmi⟩))
    · skip
      exact absurd hb6 (by omega)
set_option maxHeartbeats 1000000 in
set_option maxRecDepth 100000 in
theorem tX8_fewestParts (G : GT) (σ : Sg) (m : Int) (hmi : IM σ) (hrg : (-2147483648 ≤ m ∧ m ≤ 2147483647)) : Ct G mX8_fewestParts 6 0 0 false SH SH [Rf G 46, I m] σ (MkP σ (oFewest (absM σ) m)) := by
  obtain ⟨P, hP⟩ : ∃ P : Option Value → Sg → Prop, P = (MkP σ (oFewest (absM σ) m)) := ⟨_, rfl⟩
  rw [← hP]
  refine ct_of (lv := [(0, Rf G 46), (1, I m)]) (by decide +kernel) (Nat.le_of_ble_eq_true rfl) rfl ?_
  obtain ⟨hR, hC, hn, hT, hwt, hp52, h2, h6, hbf⟩ := hmi.us
  have hO9 : OkS (st0 (σ 47)) := hmi.2.2.2.2.1
  refine r_aload_n dX8_fewestParts_0 rfl rfl ?_
  refine r_iconst dX8_fewestParts_1 ?_
  refine r_putI (z := 7) tyX8 dX8_fewestParts_2 sh46 rfl (ci := 8) (j := 7) rfl (Nat.le_of_ble_eq_true rfl) rfl tyX8_ok nmX8 ixX8 q649 rfl rfl rfl ?_
  refine r_iload_n dX8_fewestParts_5 rfl rfl ?_
  refine r_iconst dX8_fewestParts_6 ?_
  refine r_ldc (z := 999999) dX8_fewestParts_7 q886 ?_
  refine r_callS (tX8_in G (up σ 46 7 0) m 1 999999 (by omega)) dX8_fewestParts_9 svX8_in q671 rfl ⟨Nat.le_of_ble_eq_true rfl, Nat.le_of_ble_eq_true rfl⟩ (Nat.le_of_ble_eq_true rfl) ⟨Nat.le_of_ble_eq_true rfl, Nat.le_of_ble_eq_true rfl⟩ ?_
  rintro _ _ ⟨⟨hq1, rfl⟩ | ⟨hq1, rfl⟩, rfl⟩
  · skip
    refine r_if_eq (tgt := 23) dX8_fewestParts_12 (by decide) (by omega) (fun hb2 => ?_) (fun hb2 => ?_)
    · skip
      exact absurd hb2 (by omega)
    · skip
      refine r_aload_n dX8_fewestParts_15 rfl rfl ?_
      refine r_iload_n dX8_fewestParts_16 rfl rfl ?_
      refine r_callV (tX8_fewest G (up σ 46 7 0) m (((Qm.u7 (σ := σ) (j := 7) (v := 0) (by decide)).ci hmi)) (by omega)) dX8_fewestParts_17 svX8_fewest q887 sh46 (ci := 8) rfl rfl rfl ⟨Nat.le_of_ble_eq_true rfl, Nat.le_of_ble_eq_true rfl⟩ (Nat.le_of_ble_eq_true rfl) ⟨Nat.le_of_ble_eq_true rfl, Nat.le_of_ble_eq_true rfl⟩ ?_
      rintro _ s3 ⟨rfl, hq4⟩
      rw [show (up σ 46 7 0) 47 = σ 47 from up_ne (by decide)]
      refine r_goto (tgt := 28) dX8_fewestParts_20 (by decide) ?_
      exact r_iret dX8_fewestParts_28 rfl (by rw [hP]; exact by rw [oFewest_m]; first | (rw [if_neg (by omega)]; exact ⟨rfl, ((hq4.2.1).trans (up_eq)), ((((Qm.refl σ).tr (Qm.u7 (σ := σ) (j := 7) (v := 0) (by decide))).tr hq4.1)).done hmi⟩) | (rw [if_pos (by omega), fwM]; exact ⟨rfl, ((hq4.2.1).trans (up_eq)), ((((Qm.refl σ).tr (Qm.u7 (σ := σ) (j := 7) (v := 0) (by decide))).tr hq4.1)).done hmi⟩))
  · skip
    refine r_if_eq (tgt := 23) dX8_fewestParts_12 (by decide) (by omega) (fun hb5 => ?_) (fun hb5 => ?_)
    · skip
      refine r_aload_n dX8_fewestParts_23 rfl rfl ?_
      refine r_iconst dX8_fewestParts_24 ?_
      refine r_callV (tX8_refuses G (up σ 46 7 0) 1) dX8_fewestParts_25 svX8_refuses q674 sh46 (ci := 8) rfl rfl rfl ⟨Nat.le_of_ble_eq_true rfl, Nat.le_of_ble_eq_true rfl⟩ (Nat.le_of_ble_eq_true rfl) ⟨Nat.le_of_ble_eq_true rfl, Nat.le_of_ble_eq_true rfl⟩ ?_
      rintro _ _ ⟨rfl, rfl⟩
      exact r_iret dX8_fewestParts_28 rfl (by rw [hP]; exact by rw [oFewest_m]; first | (rw [if_neg (by omega)]; exact ⟨rfl, up_eq, ((((Qm.refl σ).tr (Qm.u7 (σ := σ) (j := 7) (v := 0) (by decide))).tr (Qm.u7 (σ := (up σ 46 7 0)) (j := 7) (v := 1) (by decide)))).done hmi⟩) | (rw [if_pos (by omega), fwM]; exact ⟨rfl, up_eq, ((((Qm.refl σ).tr (Qm.u7 (σ := σ) (j := 7) (v := 0) (by decide))).tr (Qm.u7 (σ := (up σ 46 7 0)) (j := 7) (v := 1) (by decide)))).done hmi⟩))
    · skip
      exact absurd hb5 (by omega)
set_option maxHeartbeats 1000000 in
set_option maxRecDepth 100000 in
theorem tX8_share (G : GT) (σ : Sg)  (hmi : IM σ) : Ct G mX8_share 7 0 0 false SH SH [Rf G 46] σ (fun rv sv => some (Value.double (shF (st0 (σ 47)))) = rv ∧ Qt σ sv) := by
  obtain ⟨P, hP⟩ : ∃ P : Option Value → Sg → Prop, P = (fun rv sv => some (Value.double (shF (st0 (σ 47)))) = rv ∧ Qt σ sv) := ⟨_, rfl⟩
  rw [← hP]
  refine ct_of (lv := [(0, Rf G 46)]) (by decide +kernel) (Nat.le_of_ble_eq_true rfl) rfl ?_
  obtain ⟨hR, hC, hn, hT, hwt, hp52, h2, h6, hbf⟩ := hmi.us
  refine r_aload_n dX8_share_0 rfl rfl ?_
  refine r_iconst dX8_share_1 ?_
  refine r_callV (tX8_looksBy G σ 1 (hmi) (by omega)) dX8_share_2 svX8_looksBy q822 sh46 (ci := 8) rfl rfl rfl ⟨Nat.le_of_ble_eq_true rfl, Nat.le_of_ble_eq_true rfl⟩ (Nat.le_of_ble_eq_true rfl) ⟨Nat.le_of_ble_eq_true rfl, Nat.le_of_ble_eq_true rfl⟩ ?_
  rintro _ u ⟨rfl, hu⟩
  obtain ⟨k, hk⟩ : ∃ k, k = lkW (st0 (σ 47)) 1 := ⟨_, rfl⟩
  rw [← hk]
  have hk9 : (k = -1 ∧ ¬ Kp (σ 47 0) (σ 47 1) (tM (σ 47))) ∨ (1 ≤ k ∧ k ≤ σ 47 1 * σ 47 0 ∧ k = LW (tM (σ 47)) (σ 47 0) (σ 47 1) 1 ∧ Kp (σ 47 0) (σ 47 1) (tM (σ 47))) := by
    by_cases e : Kp (σ 47 0) (σ 47 1) (tM (σ 47))
    · have h1 := LW1_bd (T := tM (σ 47)) hR hC
      rw [lkM_y (Or.inr e)] at hk
      rw [hk]; exact Or.inr ⟨h1.1, h1.2, rfl, e⟩
    · rw [lkM_n (fun q => q.elim (by decide) e)] at hk
      exact Or.inl ⟨hk, e⟩
  have hmu : σ 47 1 * σ 47 0 ≤ 10 * 10 := Int.mul_le_mul hC.2 hR.2 (by omega) (by omega)
  refine r_istore_n (lv' := [(0, Rf G 46), (1, I k)]) dX8_share_5 rfl (Nat.le_of_ble_eq_true rfl) rfl ?_
  refine r_iload_n dX8_share_6 rfl rfl ?_
  refine r_iconst dX8_share_7 ?_
  refine r_icmp_ne (tgt := 13) dX8_share_8 (by decide) (by omega) (fun hb1 => ?_) (fun hb1 => ?_)
  · skip
    have hk8 : 1 ≤ k ∧ k ≤ σ 47 1 * σ 47 0 := by rcases hk9 with q | q; exact absurd q.1 (by omega); exact ⟨q.1, q.2.1⟩
    obtain ⟨i8, -, hb8⟩ := b_rc hR hC hk8
    refine r_iload_n dX8_share_13 rfl rfl ?_
    refine r_i2d dX8_share_14 ?_
    refine r_dstore_n (lv' := [(0, Rf G 46), (1, I k), (2, Value.double (FP.i2d (Int32.ofInt k)))]) dX8_share_15 rfl (Nat.le_of_ble_eq_true rfl) rfl ?_
    refine r_dload_n dX8_share_16 rfl rfl ?_
    refine r_aload_n dX8_share_17 rfl rfl ?_
    refine r_getR (b := 47) dX8_share_18 sh46 rfl (ci := 8) (j := 0) rfl (Nat.le_of_ble_eq_true rfl) ixX8 q642 rfl ?_
    refine r_iconst dX8_share_21 ?_
    refine r_iald dX8_share_22 sh47 (by omega) (hv := congrFun (hu.1.1 47 (by decide)) 0) ?_
    refine r_aload_n dX8_share_23 rfl rfl ?_
    refine r_getR (b := 47) dX8_share_24 sh46 rfl (ci := 8) (j := 0) rfl (Nat.le_of_ble_eq_true rfl) ixX8 q642 rfl ?_
    refine r_iconst dX8_share_27 ?_
    refine r_iald dX8_share_28 sh47 (by omega) (hv := congrFun (hu.1.1 47 (by decide)) 1) ?_
    refine r_imul dX8_share_29 ?_
    refine r_top (show σ 47 0 * σ 47 1 = σ 47 1 * σ 47 0 from Int.mul_comm _ _) ?_
    refine r_i2d dX8_share_30 ?_
    refine r_ddiv dX8_share_31 ((bOK_u hb8).2.2.2.2.2.2.1) ?_
    exact r_dret dX8_share_32 rfl (by rw [hP]; exact ⟨by rcases hk9 with q | q; exact absurd q.1 (by omega); (rw [shM_y q.2.2.2, ← q.2.2.1]; rfl), ⟨((Qm.refl σ).tr hu.1), hu.2.1, hu.2.2⟩⟩)
  · skip
    refine r_dconst0 dX8_share_11 ?_
    exact r_dret dX8_share_12 rfl (by rw [hP]; exact ⟨by rw [shM_n (by rcases hk9 with q | q; exact q.2; exact absurd q.1 (by omega))], ⟨((Qm.refl σ).tr hu.1), hu.2.1, hu.2.2⟩⟩)
