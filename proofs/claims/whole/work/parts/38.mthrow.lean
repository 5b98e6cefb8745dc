set_option maxHeartbeats 1000000 in
set_option maxRecDepth 100000 in
theorem tX8_rowAt (G : GT) (σ : Sg) (l k : Int) (h : 0 ≤ l ∧ l ≤ 4 ∧ 0 ≤ k ∧ k ≤ 100) : Ct G mX8_rowAt 1 0 0 false SH SH [I l, I k] σ (fun rv sv => some (I ((k + 1) * p2 l - 1)) = rv ∧ σ = sv) := by
  obtain ⟨P, hP⟩ : ∃ P : Option Value → Sg → Prop, P = (fun rv sv => some (I ((k + 1) * p2 l - 1)) = rv ∧ σ = sv) := ⟨_, rfl⟩
  rw [← hP]
  refine ct_of (lv := [(0, I l), (1, I k)]) (by decide +kernel) (Nat.le_of_ble_eq_true rfl) rfl ?_
  refine r_iload_n dX8_rowAt_0 rfl rfl ?_
  refine r_iconst dX8_rowAt_1 ?_
  refine r_iadd dX8_rowAt_2 ?_
  refine r_iload_n dX8_rowAt_3 rfl rfl ?_
  refine r_ishl dX8_rowAt_4 (by omega) ?_
  refine r_iconst dX8_rowAt_5 ?_
  refine r_isub dX8_rowAt_6 ?_
  exact r_iret dX8_rowAt_7 rfl (by rw [hP]; exact ⟨rfl, rfl⟩)
set_option maxHeartbeats 1000000 in
set_option maxRecDepth 100000 in
theorem tX8_piles (G : GT) (σ : Sg) (d hi col : Int) (hR : 1 ≤ σ 47 0 ∧ σ 47 0 ≤ 10) (hC : 1 ≤ σ 47 1 ∧ σ 47 1 ≤ 10) (h : 0 ≤ d ∧ d ≤ 3 ∧ 0 ≤ hi ∧ hi ≤ 10 ∧ 0 ≤ col ∧ col < 10) (hr : ∀ k, 1 ≤ k → k ≤ hi → 1 ≤ k * p2 d ∧ k * p2 d ≤ 10) (hf : ∀ j, 0 ≤ j → j < hi → 0 ≤ σ 54 (10 * d + j) ∧ σ 54 (10 * d + j) < 10) (hN : 0 ≤ σ 47 0 / p2 d ∧ σ 47 0 / p2 d ≤ 10) (hT : ∀ i, 0 ≤ tM (σ 47) i ∧ tM (σ 47) i ≤ 9999) : Ct G mX8_piles 2 0 0 false SH SH [Rf G 46, I d, I hi, I col] σ (fun rv sv => ((thF (tM (σ 47)) d (fun j => σ 54 (10 * d + j)) col hi.toNat).1 < σ 47 0 / p2 d ∧ some (I ((thF (tM (σ 47)) d (fun j => σ 54 (10 * d + j)) col hi.toNat).1 + 1)) = rv ∧ up (up σ 46 9 (σ 46 9 + (thF (tM (σ 47)) d (fun j => σ 54 (10 * d + j)) col hi.toNat).2)) 54 (10 * d + (thF (tM (σ 47)) d (fun j => σ 54 (10 * d + j)) col hi.toNat).1) col = sv) ∨ (¬ (thF (tM (σ 47)) d (fun j => σ 54 (10 * d + j)) col hi.toNat).1 < σ 47 0 / p2 d ∧ some (I (thF (tM (σ 47)) d (fun j => σ 54 (10 * d + j)) col hi.toNat).1) = rv ∧ up σ 46 9 (σ 46 9 + (thF (tM (σ 47)) d (fun j => σ 54 (10 * d + j)) col hi.toNat).2) = sv)) := by
  obtain ⟨P, hP⟩ : ∃ P : Option Value → Sg → Prop, P = (fun rv sv => ((thF (tM (σ 47)) d (fun j => σ 54 (10 * d + j)) col hi.toNat).1 < σ 47 0 / p2 d ∧ some (I ((thF (tM (σ 47)) d (fun j => σ 54 (10 * d + j)) col hi.toNat).1 + 1)) = rv ∧ up (up σ 46 9 (σ 46 9 + (thF (tM (σ 47)) d (fun j => σ 54 (10 * d + j)) col hi.toNat).2)) 54 (10 * d + (thF (tM (σ 47)) d (fun j => σ 54 (10 * d + j)) col hi.toNat).1) col = sv) ∨ (¬ (thF (tM (σ 47)) d (fun j => σ 54 (10 * d + j)) col hi.toNat).1 < σ 47 0 / p2 d ∧ some (I (thF (tM (σ 47)) d (fun j => σ 54 (10 * d + j)) col hi.toNat).1) = rv ∧ up σ 46 9 (σ 46 9 + (thF (tM (σ 47)) d (fun j => σ 54 (10 * d + j)) col hi.toNat).2) = sv)) := ⟨_, rfl⟩
  rw [← hP]
  refine ct_of (lv := [(0, Rf G 46), (1, I d), (2, I hi), (3, I col)]) (by decide +kernel) (Nat.le_of_ble_eq_true rfl) rfl ?_
  refine r_iload_n dX8_piles_0 rfl rfl ?_
  refine r_istore (lv' := [(0, Rf G 46), (1, I d), (2, I hi), (3, I col), (4, I hi)]) dX8_piles_1 (Nat.le_of_ble_eq_true rfl) rfl ?_
  refine r_iload dX8_piles_3 rfl ?_
  refine r_if_le (tgt := 12) dX8_piles_5 (by decide) (by omega) (fun hb1 => ?_) (fun hb1 => ?_)
  · skip
    refine r_iconst dX8_piles_12 ?_
    refine r_istore (lv' := [(0, Rf G 46), (1, I d), (2, I hi), (3, I col), (4, I hi), (5, I 0)]) dX8_piles_13 (Nat.le_of_ble_eq_true rfl) rfl ?_
    have L15 : ∀ (mm : Nat) (t g acc : Int) (s : Sg), (2 * t + g).toNat = mm → (ht : 0 ≤ t ∧ t ≤ hi) → (hg : (g = 1 ∧ 0 < t ∧ thF (tM (σ 47)) d (fun j => σ 54 (10 * d + j)) col hi.toNat = ((thF (tM (σ 47)) d (fun j => σ 54 (10 * d + j)) col t.toNat).1, acc + (thF (tM (σ 47)) d (fun j => σ 54 (10 * d + j)) col t.toNat).2)) ∨ (g = 0 ∧ thF (tM (σ 47)) d (fun j => σ 54 (10 * d + j)) col hi.toNat = (t, acc))) → (hS : s = up σ 46 9 (σ 46 9 + acc)) → Rn G mX8_piles (rmD 2 0 0) E0 (Zn G false SH P 0 0) false SH 0 0 15 [(0, Rf G 46), (1, I d), (2, I hi), (3, I col), (4, I t), (5, I g)] [] s := by
      intro mm
      induction mm using Nat.strongRecOn with
      | _ mm ih15 =>
      intro t g acc s hm15 ht hg hS
      have e47 : s 47 = σ 47 := by rw [hS, up_ne (by decide)]
      have e54 : s 54 = σ 54 := by rw [hS, up_ne (by decide)]
      have f9 : s 46 9 = σ 46 9 + acc := by rw [hS, up_eq]
      refine r_iload dX8_piles_15 rfl ?_
      refine r_if_eq (tgt := 112) dX8_piles_17 (by decide) (by omega) (fun hb2 => ?_) (fun hb2 => ?_)
      · skip
        have hg2 : thF (tM (σ 47)) d (fun j => σ 54 (10 * d + j)) col hi.toNat = (t, acc) := by
          rcases hg with q | q
          · exact absurd q.1 (by omega)
          · exact q.2
        refine r_iload dX8_piles_112 rfl ?_
        refine r_aload_n dX8_piles_114 rfl rfl ?_
        refine r_getR (b := 47) dX8_piles_115 sh46 rfl (ci := 8) (j := 0) rfl (Nat.le_of_ble_eq_true rfl) ixX8 q642 rfl ?_
        refine r_iconst dX8_piles_118 ?_
        refine r_iald dX8_piles_119 sh47 (by omega) (hv := congrFun (e47) 0) ?_
        refine r_iload_n dX8_piles_120 rfl rfl ?_
        refine r_ishr dX8_piles_121 (by omega) ?_
        refine r_icmp_ge (tgt := 141) dX8_piles_122 (by decide) (by omega) (fun hb3 => ?_) (fun hb3 => ?_)
        · skip
          refine r_iload dX8_piles_141 rfl ?_
          exact r_iret dX8_piles_143 rfl (by rw [hP]; exact by rw [hg2]; first | exact Or.inl ⟨by show t < _; omega, rfl, by rw [hS]⟩ | exact Or.inr ⟨by show ¬ t < _; omega, rfl, by rw [hS]⟩)
        · skip
          refine r_aload_n dX8_piles_125 rfl rfl ?_
          refine r_getR (b := 54) dX8_piles_126 sh46 rfl (ci := 8) (j := 12) rfl (Nat.le_of_ble_eq_true rfl) ixX8 q654 rfl ?_
          refine r_bipush dX8_piles_129 rfl ?_
          refine r_iload_n dX8_piles_131 rfl rfl ?_
          refine r_imul dX8_piles_132 ?_
          refine r_iload dX8_piles_133 rfl ?_
          refine r_iadd dX8_piles_135 ?_
          refine r_iload_n dX8_piles_136 rfl rfl ?_
          refine r_iast dX8_piles_137 sh54 (by omega) ?_
          refine r_iinc (lv' := [(0, Rf G 46), (1, I d), (2, I hi), (3, I col), (4, I (t + 1)), (5, I g)]) dX8_piles_138 (Nat.le_of_ble_eq_true rfl) rfl rfl ?_
          refine r_iload dX8_piles_141 rfl ?_
          exact r_iret dX8_piles_143 rfl (by rw [hP]; exact by rw [hg2]; first | exact Or.inl ⟨by show t < _; omega, rfl, by rw [hS]⟩ | exact Or.inr ⟨by show ¬ t < _; omega, rfl, by rw [hS]⟩)
      · skip
        have hg1 : 0 < t := by omega
        have hg2 : thF (tM (σ 47)) d (fun j => σ 54 (10 * d + j)) col hi.toNat = ((thF (tM (σ 47)) d (fun j => σ 54 (10 * d + j)) col t.toNat).1, acc + (thF (tM (σ 47)) d (fun j => σ 54 (10 * d + j)) col t.toNat).2) := by
          rcases hg with q | q
          · exact q.2.2
          · exact absurd q.1 (by omega)
        have hrr := hr t (by omega) (by omega)
        have hff := hf (t - 1) (by omega) (by omega)
        have b1 := hT (10 * (t * p2 d - 1) + σ 54 (10 * d + (t - 1)))
        have b2 := hT (10 * (t * p2 d - 1) + col)
        refine r_iload_n dX8_piles_20 rfl rfl ?_
        refine r_iload dX8_piles_21 rfl ?_
        refine r_iconst dX8_piles_23 ?_
        refine r_isub dX8_piles_24 ?_
        refine r_callS (tX8_rowAt G s d (t - 1) (by omega)) dX8_piles_25 svX8_rowAt q747 rfl ⟨Nat.le_of_ble_eq_true rfl, Nat.le_of_ble_eq_true rfl⟩ (Nat.le_of_ble_eq_true rfl) ⟨Nat.le_of_ble_eq_true rfl, Nat.le_of_ble_eq_true rfl⟩ ?_
        rintro _ _ ⟨rfl, rfl⟩
        rw [show t - 1 + 1 = t by omega]
        refine r_istore (lv' := [(0, Rf G 46), (1, I d), (2, I hi), (3, I col), (4, I t), (5, I g), (6, I (t * p2 d - 1))]) dX8_piles_28 (Nat.le_of_ble_eq_true rfl) rfl ?_
        refine r_aload_n dX8_piles_30 rfl rfl ?_
        refine r_dup dX8_piles_31 rfl ?_
        refine r_getI (z := 9) dX8_piles_32 sh46 rfl (ci := 8) (j := 9) rfl (Nat.le_of_ble_eq_true rfl) rfl ixX8 q651 rfl (hv := f9) ?_
        refine r_iconst dX8_piles_35 ?_
        refine r_iadd dX8_piles_36 ?_
        refine r_putI (z := 9) tyX8 dX8_piles_37 sh46 rfl (ci := 8) (j := 9) rfl (Nat.le_of_ble_eq_true rfl) rfl tyX8_ok nmX8 ixX8 q651 rfl rfl rfl ?_
        refine r_aload_n dX8_piles_40 rfl rfl ?_
        refine r_iload dX8_piles_41 rfl ?_
        refine r_aload_n dX8_piles_43 rfl rfl ?_
        refine r_getR (b := 54) dX8_piles_44 sh46 rfl (ci := 8) (j := 12) rfl (Nat.le_of_ble_eq_true rfl) ixX8 q654 rfl ?_
        refine r_bipush dX8_piles_47 rfl ?_
        refine r_iload_n dX8_piles_49 rfl rfl ?_
        refine r_imul dX8_piles_50 ?_
        refine r_iload dX8_piles_51 rfl ?_
        refine r_iadd dX8_piles_53 ?_
        refine r_iconst dX8_piles_54 ?_
        refine r_isub dX8_piles_55 ?_
        refine r_iald dX8_piles_56 sh54 (by omega) (hv := (congrFun (up_ne (by decide)) (((10 * d) + t) - 1)).trans (congrFun (e54) (((10 * d) + t) - 1))) ?_
        rw [show (10 * d + t - 1 : Int) = 10 * d + (t - 1) by omega]
        refine r_callV (tX8_at G (up s 46 9 ((σ 46 9 + acc) + 2)) (t * p2 d - 1) (σ 54 (10 * d + (t - 1))) (by omega)) dX8_piles_57 svX8_at q693 sh46 (ci := 8) rfl rfl rfl ⟨Nat.le_of_ble_eq_true rfl, Nat.le_of_ble_eq_true rfl⟩ (Nat.le_of_ble_eq_true rfl) ⟨Nat.le_of_ble_eq_true rfl, Nat.le_of_ble_eq_true rfl⟩ ?_
        rintro _ _ ⟨rfl, rfl⟩
        rw [up_ne (by decide), e47]
        refine r_aload_n dX8_piles_60 rfl rfl ?_
        refine r_iload dX8_piles_61 rfl ?_
        refine r_iload_n dX8_piles_63 rfl rfl ?_
        refine r_callV (tX8_at G (up s 46 9 ((σ 46 9 + acc) + 2)) (t * p2 d - 1) col (by omega)) dX8_piles_64 svX8_at q693 sh46 (ci := 8) rfl rfl rfl ⟨Nat.le_of_ble_eq_true rfl, Nat.le_of_ble_eq_true rfl⟩ (Nat.le_of_ble_eq_true rfl) ⟨Nat.le_of_ble_eq_true rfl, Nat.le_of_ble_eq_true rfl⟩ ?_
        rintro _ _ ⟨rfl, rfl⟩
        rw [up_ne (by decide), e47]
        refine r_icmp_le (tgt := 74) dX8_piles_67 (by decide) (by omega) (fun hb4 => ?_) (fun hb4 => ?_)
        · skip
          refine r_iconst dX8_piles_74 ?_
          refine r_istore (lv' := [(0, Rf G 46), (1, I d), (2, I hi), (3, I col), (4, I t), (5, I g), (6, I (t * p2 d - 1)), (7, I 0)]) dX8_piles_75 (Nat.le_of_ble_eq_true rfl) rfl ?_
          refine r_iload dX8_piles_77 rfl ?_
          refine r_iload dX8_piles_79 rfl ?_
          refine r_if_eq (tgt := 88) dX8_piles_81 (by decide) (by omega) (fun hb5 => ?_) (fun hb5 => ?_)
          · skip
            refine r_iconst dX8_piles_88 ?_
            refine r_isub dX8_piles_89 ?_
            refine r_istore (lv' := [(0, Rf G 46), (1, I d), (2, I hi), (3, I col), (4, I (t - 0)), (5, I g), (6, I (t * p2 d - 1)), (7, I 0)]) dX8_piles_90 (Nat.le_of_ble_eq_true rfl) rfl ?_
            refine r_iload dX8_piles_92 rfl ?_
            refine r_if_eq (tgt := 106) dX8_piles_94 (by decide) (by omega) (fun hb6 => ?_) (fun hb6 => ?_)
            · skip
              refine r_iconst dX8_piles_106 ?_
              refine r_istore (lv' := [(0, Rf G 46), (1, I d), (2, I hi), (3, I col), (4, I (t - 0)), (5, I 0), (6, I (t * p2 d - 1)), (7, I 0)]) dX8_piles_107 (Nat.le_of_ble_eq_true rfl) rfl ?_
              refine r_goto (tgt := 15) dX8_piles_109 (by decide) ?_
              refine r_sub [0, 1, 2, 3, 4, 5] rfl ?_
              exact ih15 _ (by omega) _ _ (acc + 2) _ rfl (by omega) (by first | exact Or.inl ⟨rfl, by omega, by rw [hg2, thF_n (by omega) (by omega), show t - 1 = t - 1 by omega]; simp only []; rw [Prod.mk.injEq]; exact ⟨rfl, by omega⟩⟩ | exact Or.inr ⟨rfl, by rw [hg2, thF_n (by omega) (by omega), show (t - 1).toNat = 0 by omega]; simp only [thF]; rw [Prod.mk.injEq]; exact ⟨by omega, by omega⟩⟩ | exact Or.inr ⟨rfl, by rw [hg2, thF_y (by omega) (by omega)]; rw [Prod.mk.injEq]; exact ⟨by omega, by omega⟩⟩) (by rw [hS, up_twice]; congr 1; omega)
            · skip
              exact absurd hb6 (by omega)
          · skip
            exact absurd hb5 (by omega)
        · skip
          refine r_iconst dX8_piles_70 ?_
          refine r_goto (tgt := 75) dX8_piles_71 (by decide) ?_
          refine r_istore (lv' := [(0, Rf G 46), (1, I d), (2, I hi), (3, I col), (4, I t), (5, I g), (6, I (t * p2 d - 1)), (7, I 1)]) dX8_piles_75 (Nat.le_of_ble_eq_true rfl) rfl ?_
          refine r_iload dX8_piles_77 rfl ?_
          refine r_iload dX8_piles_79 rfl ?_
          refine r_if_eq (tgt := 88) dX8_piles_81 (by decide) (by omega) (fun hb7 => ?_) (fun hb7 => ?_)
          · skip
            exact absurd hb7 (by omega)
          · skip
            refine r_iconst dX8_piles_84 ?_
            refine r_goto (tgt := 89) dX8_piles_85 (by decide) ?_
            refine r_isub dX8_piles_89 ?_
            refine r_istore (lv' := [(0, Rf G 46), (1, I d), (2, I hi), (3, I col), (4, I (t - 1)), (5, I g), (6, I (t * p2 d - 1)), (7, I 1)]) dX8_piles_90 (Nat.le_of_ble_eq_true rfl) rfl ?_
            refine r_iload dX8_piles_92 rfl ?_
            refine r_if_eq (tgt := 106) dX8_piles_94 (by decide) (by omega) (fun hb8 => ?_) (fun hb8 => ?_)
            · skip
              exact absurd hb8 (by omega)
            · skip
              refine r_iload dX8_piles_97 rfl ?_
              refine r_if_le (tgt := 106) dX8_piles_99 (by decide) (by omega) (fun hb9 => ?_) (fun hb9 => ?_)
              · skip
                refine r_iconst dX8_piles_106 ?_
                refine r_istore (lv' := [(0, Rf G 46), (1, I d), (2, I hi), (3, I col), (4, I (t - 1)), (5, I 0), (6, I (t * p2 d - 1)), (7, I 1)]) dX8_piles_107 (Nat.le_of_ble_eq_true rfl) rfl ?_
                refine r_goto (tgt := 15) dX8_piles_109 (by decide) ?_
                refine r_sub [0, 1, 2, 3, 4, 5] rfl ?_
                exact ih15 _ (by omega) _ _ (acc + 2) _ rfl (by omega) (by first | exact Or.inl ⟨rfl, by omega, by rw [hg2, thF_n (by omega) (by omega), show t - 1 = t - 1 by omega]; simp only []; rw [Prod.mk.injEq]; exact ⟨rfl, by omega⟩⟩ | exact Or.inr ⟨rfl, by rw [hg2, thF_n (by omega) (by omega), show (t - 1).toNat = 0 by omega]; simp only [thF]; rw [Prod.mk.injEq]; exact ⟨by omega, by omega⟩⟩ | exact Or.inr ⟨rfl, by rw [hg2, thF_y (by omega) (by omega)]; rw [Prod.mk.injEq]; exact ⟨by omega, by omega⟩⟩) (by rw [hS, up_twice]; congr 1; omega)
              · skip
                refine r_iconst dX8_piles_102 ?_
                refine r_goto (tgt := 107) dX8_piles_103 (by decide) ?_
                refine r_istore (lv' := [(0, Rf G 46), (1, I d), (2, I hi), (3, I col), (4, I (t - 1)), (5, I 1), (6, I (t * p2 d - 1)), (7, I 1)]) dX8_piles_107 (Nat.le_of_ble_eq_true rfl) rfl ?_
                refine r_goto (tgt := 15) dX8_piles_109 (by decide) ?_
                refine r_sub [0, 1, 2, 3, 4, 5] rfl ?_
                exact ih15 _ (by omega) _ _ (acc + 2) _ rfl (by omega) (by first | exact Or.inl ⟨rfl, by omega, by rw [hg2, thF_n (by omega) (by omega), show t - 1 = t - 1 by omega]; simp only []; rw [Prod.mk.injEq]; exact ⟨rfl, by omega⟩⟩ | exact Or.inr ⟨rfl, by rw [hg2, thF_n (by omega) (by omega), show (t - 1).toNat = 0 by omega]; simp only [thF]; rw [Prod.mk.injEq]; exact ⟨by omega, by omega⟩⟩ | exact Or.inr ⟨rfl, by rw [hg2, thF_y (by omega) (by omega)]; rw [Prod.mk.injEq]; exact ⟨by omega, by omega⟩⟩) (by rw [hS, up_twice]; congr 1; omega)
    exact L15 _ _ _ 0 _ rfl (by omega) (by first | exact Or.inl ⟨rfl, by omega, by rw [Int.zero_add]⟩ | exact Or.inr ⟨rfl, by rw [show hi = 0 by omega]; rfl⟩) (by rw [Int.add_zero, up_id rfl])
  · skip
    refine r_iconst dX8_piles_8 ?_
    refine r_goto (tgt := 13) dX8_piles_9 (by decide) ?_
    refine r_istore (lv' := [(0, Rf G 46), (1, I d), (2, I hi), (3, I col), (4, I hi), (5, I 1)]) dX8_piles_13 (Nat.le_of_ble_eq_true rfl) rfl ?_
    have L15 : ∀ (mm : Nat) (t g acc : Int) (s : Sg), (2 * t + g).toNat = mm → (ht : 0 ≤ t ∧ t ≤ hi) → (hg : (g = 1 ∧ 0 < t ∧ thF (tM (σ 47)) d (fun j => σ 54 (10 * d + j)) col hi.toNat = ((thF (tM (σ 47)) d (fun j => σ 54 (10 * d + j)) col t.toNat).1, acc + (thF (tM (σ 47)) d (fun j => σ 54 (10 * d + j)) col t.toNat).2)) ∨ (g = 0 ∧ thF (tM (σ 47)) d (fun j => σ 54 (10 * d + j)) col hi.toNat = (t, acc))) → (hS : s = up σ 46 9 (σ 46 9 + acc)) → Rn G mX8_piles (rmD 2 0 0) E0 (Zn G false SH P 0 0) false SH 0 0 15 [(0, Rf G 46), (1, I d), (2, I hi), (3, I col), (4, I t), (5, I g)] [] s := by
      intro mm
      induction mm using Nat.strongRecOn with
      | _ mm ih15 =>
      intro t g acc s hm15 ht hg hS
      have e47 : s 47 = σ 47 := by rw [hS, up_ne (by decide)]
      have e54 : s 54 = σ 54 := by rw [hS, up_ne (by decide)]
      have f9 : s 46 9 = σ 46 9 + acc := by rw [hS, up_eq]
      refine r_iload dX8_piles_15 rfl ?_
      refine r_if_eq (tgt := 112) dX8_piles_17 (by decide) (by omega) (fun hb10 => ?_) (fun hb10 => ?_)
      · skip
        have hg2 : thF (tM (σ 47)) d (fun j => σ 54 (10 * d + j)) col hi.toNat = (t, acc) := by
          rcases hg with q | q
          · exact absurd q.1 (by omega)
          · exact q.2
        refine r_iload dX8_piles_112 rfl ?_
        refine r_aload_n dX8_piles_114 rfl rfl ?_
        refine r_getR (b := 47) dX8_piles_115 sh46 rfl (ci := 8) (j := 0) rfl (Nat.le_of_ble_eq_true rfl) ixX8 q642 rfl ?_
        refine r_iconst dX8_piles_118 ?_
        refine r_iald dX8_piles_119 sh47 (by omega) (hv := congrFun (e47) 0) ?_
        refine r_iload_n dX8_piles_120 rfl rfl ?_
        refine r_ishr dX8_piles_121 (by omega) ?_
        refine r_icmp_ge (tgt := 141) dX8_piles_122 (by decide) (by omega) (fun hb11 => ?_) (fun hb11 => ?_)
        · skip
          refine r_iload dX8_piles_141 rfl ?_
          exact r_iret dX8_piles_143 rfl (by rw [hP]; exact by rw [hg2]; first | exact Or.inl ⟨by show t < _; omega, rfl, by rw [hS]⟩ | exact Or.inr ⟨by show ¬ t < _; omega, rfl, by rw [hS]⟩)
        · skip
          refine r_aload_n dX8_piles_125 rfl rfl ?_
          refine r_getR (b := 54) dX8_piles_126 sh46 rfl (ci := 8) (j := 12) rfl (Nat.le_of_ble_eq_true rfl) ixX8 q654 rfl ?_
          refine r_bipush dX8_piles_129 rfl ?_
          refine r_iload_n dX8_piles_131 rfl rfl ?_
          refine r_imul dX8_piles_132 ?_
          refine r_iload dX8_piles_133 rfl ?_
          refine r_iadd dX8_piles_135 ?_
          refine r_iload_n dX8_piles_136 rfl rfl ?_
          refine r_iast dX8_piles_137 sh54 (by omega) ?_
          refine r_iinc (lv' := [(0, Rf G 46), (1, I d), (2, I hi), (3, I col), (4, I (t + 1)), (5, I g)]) dX8_piles_138 (Nat.le_of_ble_eq_true rfl) rfl rfl ?_
          refine r_iload dX8_piles_141 rfl ?_
          exact r_iret dX8_piles_143 rfl (by rw [hP]; exact by rw [hg2]; first | exact Or.inl ⟨by show t < _; omega, rfl, by rw [hS]⟩ | exact Or.inr ⟨by show ¬ t < _; omega, rfl, by rw [hS]⟩)
      · skip
        have hg1 : 0 < t := by omega
        have hg2 : thF (tM (σ 47)) d (fun j => σ 54 (10 * d + j)) col hi.toNat = ((thF (tM (σ 47)) d (fun j => σ 54 (10 * d + j)) col t.toNat).1, acc + (thF (tM (σ 47)) d (fun j => σ 54 (10 * d + j)) col t.toNat).2) := by
          rcases hg with q | q
          · exact q.2.2
          · exact absurd q.1 (by omega)
        have hrr := hr t (by omega) (by omega)
        have hff := hf (t - 1) (by omega) (by omega)
        have b1 := hT (10 * (t * p2 d - 1) + σ 54 (10 * d + (t - 1)))
        have b2 := hT (10 * (t * p2 d - 1) + col)
        refine r_iload_n dX8_piles_20 rfl rfl ?_
        refine r_iload dX8_piles_21 rfl ?_
        refine r_iconst dX8_piles_23 ?_
        refine r_isub dX8_piles_24 ?_
        refine r_callS (tX8_rowAt G s d (t - 1) (by omega)) dX8_piles_25 svX8_rowAt q747 rfl ⟨Nat.le_of_ble_eq_true rfl, Nat.le_of_ble_eq_true rfl⟩ (Nat.le_of_ble_eq_true rfl) ⟨Nat.le_of_ble_eq_true rfl, Nat.le_of_ble_eq_true rfl⟩ ?_
        rintro _ _ ⟨rfl, rfl⟩
        rw [show t - 1 + 1 = t by omega]
        refine r_istore (lv' := [(0, Rf G 46), (1, I d), (2, I hi), (3, I col), (4, I t), (5, I g), (6, I (t * p2 d - 1))]) dX8_piles_28 (Nat.le_of_ble_eq_true rfl) rfl ?_
        refine r_aload_n dX8_piles_30 rfl rfl ?_
        refine r_dup dX8_piles_31 rfl ?_
        refine r_getI (z := 9) dX8_piles_32 sh46 rfl (ci := 8) (j := 9) rfl (Nat.le_of_ble_eq_true rfl) rfl ixX8 q651 rfl (hv := f9) ?_
        refine r_iconst dX8_piles_35 ?_
        refine r_iadd dX8_piles_36 ?_
        refine r_putI (z := 9) tyX8 dX8_piles_37 sh46 rfl (ci := 8) (j := 9) rfl (Nat.le_of_ble_eq_true rfl) rfl tyX8_ok nmX8 ixX8 q651 rfl rfl rfl ?_
        refine r_aload_n dX8_piles_40 rfl rfl ?_
        refine r_iload dX8_piles_41 rfl ?_
        refine r_aload_n dX8_piles_43 rfl rfl ?_
        refine r_getR (b := 54) dX8_piles_44 sh46 rfl (ci := 8) (j := 12) rfl (Nat.le_of_ble_eq_true rfl) ixX8 q654 rfl ?_
        refine r_bipush dX8_piles_47 rfl ?_
        refine r_iload_n dX8_piles_49 rfl rfl ?_
        refine r_imul dX8_piles_50 ?_
        refine r_iload dX8_piles_51 rfl ?_
        refine r_iadd dX8_piles_53 ?_
        refine r_iconst dX8_piles_54 ?_
        refine r_isub dX8_piles_55 ?_
        refine r_iald dX8_piles_56 sh54 (by omega) (hv := (congrFun (up_ne (by decide)) (((10 * d) + t) - 1)).trans (congrFun (e54) (((10 * d) + t) - 1))) ?_
        rw [show (10 * d + t - 1 : Int) = 10 * d + (t - 1) by omega]
        refine r_callV (tX8_at G (up s 46 9 ((σ 46 9 + acc) + 2)) (t * p2 d - 1) (σ 54 (10 * d + (t - 1))) (by omega)) dX8_piles_57 svX8_at q693 sh46 (ci := 8) rfl rfl rfl ⟨Nat.le_of_ble_eq_true rfl, Nat.le_of_ble_eq_true rfl⟩ (Nat.le_of_ble_eq_true rfl) ⟨Nat.le_of_ble_eq_true rfl, Nat.le_of_ble_eq_true rfl⟩ ?_
        rintro _ _ ⟨rfl, rfl⟩
        rw [up_ne (by decide), e47]
        refine r_aload_n dX8_piles_60 rfl rfl ?_
        refine r_iload dX8_piles_61 rfl ?_
        refine r_iload_n dX8_piles_63 rfl rfl ?_
        refine r_callV (tX8_at G (up s 46 9 ((σ 46 9 + acc) + 2)) (t * p2 d - 1) col (by omega)) dX8_piles_64 svX8_at q693 sh46 (ci := 8) rfl rfl rfl ⟨Nat.le_of_ble_eq_true rfl, Nat.le_of_ble_eq_true rfl⟩ (Nat.le_of_ble_eq_true rfl) ⟨Nat.le_of_ble_eq_true rfl, Nat.le_of_ble_eq_true rfl⟩ ?_
        rintro _ _ ⟨rfl, rfl⟩
        rw [up_ne (by decide), e47]
        refine r_icmp_le (tgt := 74) dX8_piles_67 (by decide) (by omega) (fun hb12 => ?_) (fun hb12 => ?_)
        · skip
          refine r_iconst dX8_piles_74 ?_
          refine r_istore (lv' := [(0, Rf G 46), (1, I d), (2, I hi), (3, I col), (4, I t), (5, I g), (6, I (t * p2 d - 1)), (7, I 0)]) dX8_piles_75 (Nat.le_of_ble_eq_true rfl) rfl ?_
          refine r_iload dX8_piles_77 rfl ?_
          refine r_iload dX8_piles_79 rfl ?_
          refine r_if_eq (tgt := 88) dX8_piles_81 (by decide) (by omega) (fun hb13 => ?_) (fun hb13 => ?_)
          · skip
            refine r_iconst dX8_piles_88 ?_
            refine r_isub dX8_piles_89 ?_
            refine r_istore (lv' := [(0, Rf G 46), (1, I d), (2, I hi), (3, I col), (4, I (t - 0)), (5, I g), (6, I (t * p2 d - 1)), (7, I 0)]) dX8_piles_90 (Nat.le_of_ble_eq_true rfl) rfl ?_
            refine r_iload dX8_piles_92 rfl ?_
            refine r_if_eq (tgt := 106) dX8_piles_94 (by decide) (by omega) (fun hb14 => ?_) (fun hb14 => ?_)
            · skip
              refine r_iconst dX8_piles_106 ?_
              refine r_istore (lv' := [(0, Rf G 46), (1, I d), (2, I hi), (3, I col), (4, I (t - 0)), (5, I 0), (6, I (t * p2 d - 1)), (7, I 0)]) dX8_piles_107 (Nat.le_of_ble_eq_true rfl) rfl ?_
              refine r_goto (tgt := 15) dX8_piles_109 (by decide) ?_
              refine r_sub [0, 1, 2, 3, 4, 5] rfl ?_
              exact ih15 _ (by omega) _ _ (acc + 2) _ rfl (by omega) (by first | exact Or.inl ⟨rfl, by omega, by rw [hg2, thF_n (by omega) (by omega), show t - 1 = t - 1 by omega]; simp only []; rw [Prod.mk.injEq]; exact ⟨rfl, by omega⟩⟩ | exact Or.inr ⟨rfl, by rw [hg2, thF_n (by omega) (by omega), show (t - 1).toNat = 0 by omega]; simp only [thF]; rw [Prod.mk.injEq]; exact ⟨by omega, by omega⟩⟩ | exact Or.inr ⟨rfl, by rw [hg2, thF_y (by omega) (by omega)]; rw [Prod.mk.injEq]; exact ⟨by omega, by omega⟩⟩) (by rw [hS, up_twice]; congr 1; omega)
            · skip
              exact absurd hb14 (by omega)
          · skip
            exact absurd hb13 (by omega)
        · skip
          refine r_iconst dX8_piles_70 ?_
          refine r_goto (tgt := 75) dX8_piles_71 (by decide) ?_
          refine r_istore (lv' := [(0, Rf G 46), (1, I d), (2, I hi), (3, I col), (4, I t), (5, I g), (6, I (t * p2 d - 1)), (7, I 1)]) dX8_piles_75 (Nat.le_of_ble_eq_true rfl) rfl ?_
          refine r_iload dX8_piles_77 rfl ?_
          refine r_iload dX8_piles_79 rfl ?_
          refine r_if_eq (tgt := 88) dX8_piles_81 (by decide) (by omega) (fun hb15 => ?_) (fun hb15 => ?_)
          · skip
            exact absurd hb15 (by omega)
          · skip
            refine r_iconst dX8_piles_84 ?_
            refine r_goto (tgt := 89) dX8_piles_85 (by decide) ?_
            refine r_isub dX8_piles_89 ?_
            refine r_istore (lv' := [(0, Rf G 46), (1, I d), (2, I hi), (3, I col), (4, I (t - 1)), (5, I g), (6, I (t * p2 d - 1)), (7, I 1)]) dX8_piles_90 (Nat.le_of_ble_eq_true rfl) rfl ?_
            refine r_iload dX8_piles_92 rfl ?_
            refine r_if_eq (tgt := 106) dX8_piles_94 (by decide) (by omega) (fun hb16 => ?_) (fun hb16 => ?_)
            · skip
              exact absurd hb16 (by omega)
            · skip
              refine r_iload dX8_piles_97 rfl ?_
              refine r_if_le (tgt := 106) dX8_piles_99 (by decide) (by omega) (fun hb17 => ?_) (fun hb17 => ?_)
              · skip
                refine r_iconst dX8_piles_106 ?_
                refine r_istore (lv' := [(0, Rf G 46), (1, I d), (2, I hi), (3, I col), (4, I (t - 1)), (5, I 0), (6, I (t * p2 d - 1)), (7, I 1)]) dX8_piles_107 (Nat.le_of_ble_eq_true rfl) rfl ?_
                refine r_goto (tgt := 15) dX8_piles_109 (by decide) ?_
                refine r_sub [0, 1, 2, 3, 4, 5] rfl ?_
                exact ih15 _ (by omega) _ _ (acc + 2) _ rfl (by omega) (by first | exact Or.inl ⟨rfl, by omega, by rw [hg2, thF_n (by omega) (by omega), show t - 1 = t - 1 by omega]; simp only []; rw [Prod.mk.injEq]; exact ⟨rfl, by omega⟩⟩ | exact Or.inr ⟨rfl, by rw [hg2, thF_n (by omega) (by omega), show (t - 1).toNat = 0 by omega]; simp only [thF]; rw [Prod.mk.injEq]; exact ⟨by omega, by omega⟩⟩ | exact Or.inr ⟨rfl, by rw [hg2, thF_y (by omega) (by omega)]; rw [Prod.mk.injEq]; exact ⟨by omega, by omega⟩⟩) (by rw [hS, up_twice]; congr 1; omega)
              · skip
                refine r_iconst dX8_piles_102 ?_
                refine r_goto (tgt := 107) dX8_piles_103 (by decide) ?_
                refine r_istore (lv' := [(0, Rf G 46), (1, I d), (2, I hi), (3, I col), (4, I (t - 1)), (5, I 1), (6, I (t * p2 d - 1)), (7, I 1)]) dX8_piles_107 (Nat.le_of_ble_eq_true rfl) rfl ?_
                refine r_goto (tgt := 15) dX8_piles_109 (by decide) ?_
                refine r_sub [0, 1, 2, 3, 4, 5] rfl ?_
                exact ih15 _ (by omega) _ _ (acc + 2) _ rfl (by omega) (by first | exact Or.inl ⟨rfl, by omega, by rw [hg2, thF_n (by omega) (by omega), show t - 1 = t - 1 by omega]; simp only []; rw [Prod.mk.injEq]; exact ⟨rfl, by omega⟩⟩ | exact Or.inr ⟨rfl, by rw [hg2, thF_n (by omega) (by omega), show (t - 1).toNat = 0 by omega]; simp only [thF]; rw [Prod.mk.injEq]; exact ⟨by omega, by omega⟩⟩ | exact Or.inr ⟨rfl, by rw [hg2, thF_y (by omega) (by omega)]; rw [Prod.mk.injEq]; exact ⟨by omega, by omega⟩⟩) (by rw [hS, up_twice]; congr 1; omega)
    exact L15 _ _ _ 0 _ rfl (by omega) (by first | exact Or.inl ⟨rfl, by omega, by rw [Int.zero_add]⟩ | exact Or.inr ⟨rfl, by rw [show hi = 0 by omega]; rfl⟩) (by rw [Int.add_zero, up_id rfl])
