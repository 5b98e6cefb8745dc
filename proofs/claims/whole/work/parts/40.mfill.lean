set_option maxHeartbeats 1000000 in
set_option maxRecDepth 100000 in
theorem tX8_leastLeft (G : GT) (σ : Sg) (d row p q : Int) (h : 0 ≤ d ∧ d ≤ 3 ∧ 0 ≤ row ∧ row < 10 ∧ -1 ≤ p ∧ p ≤ 100 ∧ -1 ≤ q ∧ q ≤ 100) (hcn : 0 ≤ σ 55 d ∧ σ 55 d ≤ 10) (hcol : ∀ j, 0 ≤ j → j < σ 55 d → 0 ≤ σ 54 (10 * d + j) ∧ σ 54 (10 * d + j) < 10) (hT : ∀ i, 0 ≤ tM (σ 47) i ∧ tM (σ 47) i ≤ 9999) : Ct G mX8_leastLeft 2 0 0 false SH SH [Rf G 46, I d, I row, I p, I q] σ (fun rv sv => some (I (lsF (tM (σ 47)) row p q (fun j => σ 54 (10 * d + j)) (σ 55 d).toNat)) = rv ∧ up σ 46 9 (σ 46 9 + lcF p q (fun j => σ 54 (10 * d + j)) (σ 55 d).toNat) = sv) := by
  obtain ⟨P, hP⟩ : ∃ P : Option Value → Sg → Prop, P = (fun rv sv => some (I (lsF (tM (σ 47)) row p q (fun j => σ 54 (10 * d + j)) (σ 55 d).toNat)) = rv ∧ up σ 46 9 (σ 46 9 + lcF p q (fun j => σ 54 (10 * d + j)) (σ 55 d).toNat) = sv) := ⟨_, rfl⟩
  rw [← hP]
  refine ct_of (lv := [(0, Rf G 46), (1, I d), (2, I row), (3, I p), (4, I q)]) (by decide +kernel) (Nat.le_of_ble_eq_true rfl) rfl ?_
  refine r_iconst dX8_leastLeft_0 ?_
  refine r_istore (lv' := [(0, Rf G 46), (1, I d), (2, I row), (3, I p), (4, I q), (5, I (-1))]) dX8_leastLeft_1 (Nat.le_of_ble_eq_true rfl) rfl ?_
  refine r_iconst dX8_leastLeft_3 ?_
  refine r_istore (lv' := [(0, Rf G 46), (1, I d), (2, I row), (3, I p), (4, I q), (5, I (-1)), (6, I 0)]) dX8_leastLeft_4 (Nat.le_of_ble_eq_true rfl) rfl ?_
  have L6 : ∀ (mm : Nat) (f k : Int) (s : Sg), (σ 55 d - k).toNat = mm → (hk : 0 ≤ k ∧ k ≤ σ 55 d) → (hf : f = lsF (tM (σ 47)) row p q (fun j => σ 54 (10 * d + j)) k.toNat) → (hfb : -1 ≤ f ∧ f < 10) → (hS : s = up σ 46 9 (σ 46 9 + lcF p q (fun j => σ 54 (10 * d + j)) k.toNat)) → Rn G mX8_leastLeft (rmD 2 0 0) E0 (Zn G false SH P 0 0) false SH 0 0 6 [(0, Rf G 46), (1, I d), (2, I row), (3, I p), (4, I q), (5, I f), (6, I k)] [] s := by
    intro mm
    induction mm using Nat.strongRecOn with
    | _ mm ih6 =>
    intro f k s hm6 hk hf hfb hS
    have e47 : s 47 = σ 47 := by rw [hS, up_ne (by decide)]
    have e54 : s 54 = σ 54 := by rw [hS, up_ne (by decide)]
    have e55 : s 55 = σ 55 := by rw [hS, up_ne (by decide)]
    have f9 : s 46 9 = σ 46 9 + lcF p q (fun j => σ 54 (10 * d + j)) k.toNat := by rw [hS, up_eq]
    refine r_iload dX8_leastLeft_6 rfl ?_
    refine r_aload_n dX8_leastLeft_8 rfl rfl ?_
    refine r_getR (b := 55) dX8_leastLeft_9 sh46 rfl (ci := 8) (j := 13) rfl (Nat.le_of_ble_eq_true rfl) ixX8 q655 rfl ?_
    refine r_iload_n dX8_leastLeft_12 rfl rfl ?_
    refine r_iald dX8_leastLeft_13 sh55 (by omega) (hv := congrFun (e55) d) ?_
    refine r_icmp_ge (tgt := 90) dX8_leastLeft_14 (by decide) (by omega) (fun hb1 => ?_) (fun hb1 => ?_)
    · skip
      refine r_iload dX8_leastLeft_90 rfl ?_
      exact r_iret dX8_leastLeft_92 rfl (by rw [hP]; exact ⟨by rw [hf, show k = σ 55 d by omega], by rw [hS, show k = σ 55 d by omega]⟩)
    · skip
      have hcc := hcol k hk.1 (by omega)
      have b1 := hT (10 * row + σ 54 (10 * d + k))
      have b2 := hT (10 * row + f)
      refine r_aload_n dX8_leastLeft_17 rfl rfl ?_
      refine r_getR (b := 54) dX8_leastLeft_18 sh46 rfl (ci := 8) (j := 12) rfl (Nat.le_of_ble_eq_true rfl) ixX8 q654 rfl ?_
      refine r_bipush dX8_leastLeft_21 rfl ?_
      refine r_iload_n dX8_leastLeft_23 rfl rfl ?_
      refine r_imul dX8_leastLeft_24 ?_
      refine r_iload dX8_leastLeft_25 rfl ?_
      refine r_iadd dX8_leastLeft_27 ?_
      refine r_iald dX8_leastLeft_28 sh54 (by omega) (hv := congrFun (e54) ((10 * d) + k)) ?_
      refine r_istore (lv' := [(0, Rf G 46), (1, I d), (2, I row), (3, I p), (4, I q), (5, I f), (6, I k), (7, I (σ 54 ((10 * d) + k)))]) dX8_leastLeft_29 (Nat.le_of_ble_eq_true rfl) rfl ?_
      refine r_iload dX8_leastLeft_31 rfl ?_
      refine r_iload_n dX8_leastLeft_33 rfl rfl ?_
      refine r_iload dX8_leastLeft_34 rfl ?_
      refine r_callS (tX8_in G s (σ 54 ((10 * d) + k)) p q (by omega)) dX8_leastLeft_36 svX8_in q671 rfl ⟨Nat.le_of_ble_eq_true rfl, Nat.le_of_ble_eq_true rfl⟩ (Nat.le_of_ble_eq_true rfl) ⟨Nat.le_of_ble_eq_true rfl, Nat.le_of_ble_eq_true rfl⟩ ?_
      rintro _ _ ⟨⟨hq2, rfl⟩ | ⟨hq2, rfl⟩, rfl⟩
      · skip
        refine r_if_eq (tgt := 84) dX8_leastLeft_39 (by decide) (by omega) (fun hb3 => ?_) (fun hb3 => ?_)
        · skip
          exact absurd hb3 (by omega)
        · skip
          refine r_aload_n dX8_leastLeft_42 rfl rfl ?_
          refine r_dup dX8_leastLeft_43 rfl ?_
          refine r_getI (z := 9) dX8_leastLeft_44 sh46 rfl (ci := 8) (j := 9) rfl (Nat.le_of_ble_eq_true rfl) rfl ixX8 q651 rfl (hv := f9) ?_
          refine r_iconst dX8_leastLeft_47 ?_
          refine r_iadd dX8_leastLeft_48 ?_
          refine r_putI (z := 9) tyX8 dX8_leastLeft_49 sh46 rfl (ci := 8) (j := 9) rfl (Nat.le_of_ble_eq_true rfl) rfl tyX8_ok nmX8 ixX8 q651 rfl rfl rfl ?_
          refine r_iload dX8_leastLeft_52 rfl ?_
          refine r_iconst dX8_leastLeft_54 ?_
          refine r_icmp_eq (tgt := 75) dX8_leastLeft_55 (by decide) (by omega) (fun hb4 => ?_) (fun hb4 => ?_)
          · skip
            refine r_iload dX8_leastLeft_75 rfl ?_
            refine r_goto (tgt := 82) dX8_leastLeft_77 (by decide) ?_
            refine r_istore (lv' := [(0, Rf G 46), (1, I d), (2, I row), (3, I p), (4, I q), (5, I (σ 54 ((10 * d) + k))), (6, I k), (7, I (σ 54 ((10 * d) + k)))]) dX8_leastLeft_82 (Nat.le_of_ble_eq_true rfl) rfl ?_
            refine r_iinc (lv' := [(0, Rf G 46), (1, I d), (2, I row), (3, I p), (4, I q), (5, I (σ 54 ((10 * d) + k))), (6, I (k + 1)), (7, I (σ 54 ((10 * d) + k)))]) dX8_leastLeft_84 (Nat.le_of_ble_eq_true rfl) rfl rfl ?_
            refine r_goto (tgt := 6) dX8_leastLeft_87 (by decide) ?_
            refine r_sub [0, 1, 2, 3, 4, 5, 6] rfl ?_
            exact ih6 _ (by omega) _ (k + 1) _ rfl (by omega) (by rw [lsF_s hk.1, ← hf]; unfold lstep; first | rw [if_pos (by omega)] | rw [if_neg (by omega)]) (by omega) (by first | (rw [hS, up_twice, lcF_y hk.1 (by omega)]; congr 1; omega) | (rw [hS, lcF_n hk.1 (by omega)]))
          · skip
            refine r_aload_n dX8_leastLeft_58 rfl rfl ?_
            refine r_iload_n dX8_leastLeft_59 rfl rfl ?_
            refine r_iload dX8_leastLeft_60 rfl ?_
            refine r_callV (tX8_at G (up s 46 9 ((σ 46 9 + lcF p q (fun j => σ 54 (10 * d + j)) k.toNat) + 1)) row (σ 54 ((10 * d) + k)) (by omega)) dX8_leastLeft_62 svX8_at q693 sh46 (ci := 8) rfl rfl rfl ⟨Nat.le_of_ble_eq_true rfl, Nat.le_of_ble_eq_true rfl⟩ (Nat.le_of_ble_eq_true rfl) ⟨Nat.le_of_ble_eq_true rfl, Nat.le_of_ble_eq_true rfl⟩ ?_
            rintro _ _ ⟨rfl, rfl⟩
            rw [up_ne (by decide), e47]
            refine r_aload_n dX8_leastLeft_65 rfl rfl ?_
            refine r_iload_n dX8_leastLeft_66 rfl rfl ?_
            refine r_iload dX8_leastLeft_67 rfl ?_
            refine r_callV (tX8_at G (up s 46 9 ((σ 46 9 + lcF p q (fun j => σ 54 (10 * d + j)) k.toNat) + 1)) row f (by omega)) dX8_leastLeft_69 svX8_at q693 sh46 (ci := 8) rfl rfl rfl ⟨Nat.le_of_ble_eq_true rfl, Nat.le_of_ble_eq_true rfl⟩ (Nat.le_of_ble_eq_true rfl) ⟨Nat.le_of_ble_eq_true rfl, Nat.le_of_ble_eq_true rfl⟩ ?_
            rintro _ _ ⟨rfl, rfl⟩
            rw [up_ne (by decide), e47]
            refine r_icmp_ge (tgt := 80) dX8_leastLeft_72 (by decide) (by omega) (fun hb5 => ?_) (fun hb5 => ?_)
            · skip
              refine r_iload dX8_leastLeft_80 rfl ?_
              refine r_istore (lv' := [(0, Rf G 46), (1, I d), (2, I row), (3, I p), (4, I q), (5, I f), (6, I k), (7, I (σ 54 ((10 * d) + k)))]) dX8_leastLeft_82 (Nat.le_of_ble_eq_true rfl) rfl ?_
              refine r_iinc (lv' := [(0, Rf G 46), (1, I d), (2, I row), (3, I p), (4, I q), (5, I f), (6, I (k + 1)), (7, I (σ 54 ((10 * d) + k)))]) dX8_leastLeft_84 (Nat.le_of_ble_eq_true rfl) rfl rfl ?_
              refine r_goto (tgt := 6) dX8_leastLeft_87 (by decide) ?_
              refine r_sub [0, 1, 2, 3, 4, 5, 6] rfl ?_
              exact ih6 _ (by omega) _ (k + 1) _ rfl (by omega) (by rw [lsF_s hk.1, ← hf]; unfold lstep; first | rw [if_pos (by omega)] | rw [if_neg (by omega)]) (by omega) (by first | (rw [hS, up_twice, lcF_y hk.1 (by omega)]; congr 1; omega) | (rw [hS, lcF_n hk.1 (by omega)]))
            · skip
              refine r_iload dX8_leastLeft_75 rfl ?_
              refine r_goto (tgt := 82) dX8_leastLeft_77 (by decide) ?_
              refine r_istore (lv' := [(0, Rf G 46), (1, I d), (2, I row), (3, I p), (4, I q), (5, I (σ 54 ((10 * d) + k))), (6, I k), (7, I (σ 54 ((10 * d) + k)))]) dX8_leastLeft_82 (Nat.le_of_ble_eq_true rfl) rfl ?_
              refine r_iinc (lv' := [(0, Rf G 46), (1, I d), (2, I row), (3, I p), (4, I q), (5, I (σ 54 ((10 * d) + k))), (6, I (k + 1)), (7, I (σ 54 ((10 * d) + k)))]) dX8_leastLeft_84 (Nat.le_of_ble_eq_true rfl) rfl rfl ?_
              refine r_goto (tgt := 6) dX8_leastLeft_87 (by decide) ?_
              refine r_sub [0, 1, 2, 3, 4, 5, 6] rfl ?_
              exact ih6 _ (by omega) _ (k + 1) _ rfl (by omega) (by rw [lsF_s hk.1, ← hf]; unfold lstep; first | rw [if_pos (by omega)] | rw [if_neg (by omega)]) (by omega) (by first | (rw [hS, up_twice, lcF_y hk.1 (by omega)]; congr 1; omega) | (rw [hS, lcF_n hk.1 (by omega)]))
      · skip
        refine r_if_eq (tgt := 84) dX8_leastLeft_39 (by decide) (by omega) (fun hb6 => ?_) (fun hb6 => ?_)
        · skip
          refine r_iinc (lv' := [(0, Rf G 46), (1, I d), (2, I row), (3, I p), (4, I q), (5, I f), (6, I (k + 1)), (7, I (σ 54 ((10 * d) + k)))]) dX8_leastLeft_84 (Nat.le_of_ble_eq_true rfl) rfl rfl ?_
          refine r_goto (tgt := 6) dX8_leastLeft_87 (by decide) ?_
          refine r_sub [0, 1, 2, 3, 4, 5, 6] rfl ?_
          exact ih6 _ (by omega) _ (k + 1) _ rfl (by omega) (by rw [lsF_s hk.1, ← hf]; unfold lstep; first | rw [if_pos (by omega)] | rw [if_neg (by omega)]) (by omega) (by first | (rw [hS, up_twice, lcF_y hk.1 (by omega)]; congr 1; omega) | (rw [hS, lcF_n hk.1 (by omega)]))
        · skip
          exact absurd hb6 (by omega)
  exact L6 _ (-1) 0 _ rfl (by omega) (rfl) (by omega) ((up_id (Int.add_zero _)).symm)
