variable {Ω : List Ob}

theorem mul9 {x y : Int} (hx : 0 ≤ x ∧ x ≤ 9) (hy : 0 ≤ y ∧ y ≤ 9) : 0 ≤ x * y ∧ x * y ≤ 81 := ⟨Int.mul_nonneg hx.1 hy.1, Int.mul_le_mul hx.2 hy.2 hy.1 (by decide)⟩
theorem sq131 {e : Int} (h : -131 ≤ e ∧ e ≤ 131) : 0 ≤ e * e ∧ e * e ≤ 17161 := by
  rcases Int.le_total 0 e with q | q
  · exact ⟨Int.mul_nonneg q q, Int.mul_le_mul h.2 h.2 q (by decide)⟩
  · have h1 : 0 ≤ (-e) * (-e) := Int.mul_nonneg (by omega) (by omega)
    have h2 : (-e) * (-e) ≤ 131 * 131 := Int.mul_le_mul (by omega) (by omega) (by omega) (by decide)
    rw [Int.neg_mul_neg] at h1 h2
    omega
def ptL (lim C a b c d : Int) (T : Int → Int) : Int → Int := fun i => if (0 ≤ i ∧ i < lim) ∧ i % 10 < C then mn (far a b c d i * far a b c d i) 9999 else T i
theorem ptL_s {lim C a b c d v : Int} {T : Int → Int} (h0 : 0 ≤ lim) (hc : lim % 10 < C) (hv : v = mn (far a b c d lim * far a b c d lim) 9999) : fu (ptL lim C a b c d T) lim v = ptL (lim + 1) C a b c d T := by
  subst hv
  funext i
  unfold fu ptL
  by_cases e : i = lim
  · rw [if_pos e, e, if_pos ⟨⟨h0, by omega⟩, hc⟩]
  · rw [if_neg e]
    show (if (0 ≤ i ∧ i < lim) ∧ i % 10 < C then _ else _) = _
    by_cases q : (0 ≤ i ∧ i < lim) ∧ i % 10 < C
    · rw [if_pos q, if_pos (by omega)]
    · rw [if_neg q, if_neg (by omega)]
theorem ptL_k {r C a b c d : Int} {T : Int → Int} (hC : 1 ≤ C ∧ C ≤ 10) : ptL (10 * r + C) C a b c d T = ptL (10 * (r + 1)) C a b c d T := by
  funext i
  unfold ptL
  by_cases q : (0 ≤ i ∧ i < 10 * r + C) ∧ i % 10 < C
  · rw [if_pos q, if_pos (by omega)]
  · rw [if_neg q, if_neg (by omega)]
theorem ptL_0 {C a b c d : Int} {T : Int → Int} : T = ptL (10 * 0) C a b c d T := by
  funext i
  unfold ptL
  rw [if_neg (by omega)]
theorem far_at {a b c d r k : Int} (hk : 0 ≤ k ∧ k < 10) : far a b c d (10 * r + k) = a + b * r - (c + d * k) := by
  unfold far
  rw [show (10 * r + k) / 10 = r by omega, show (10 * r + k) % 10 = k by omega]

set_option maxHeartbeats 1000000 in
set_option maxRecDepth 100000 in
theorem tX7_mend (G : GT) (σ : Sg)  (hci : CI σ) : Ct G mX7_mend 4 0 0 false (SH Ω) (SH Ω) [Rf G 0] σ (OkP σ (oMend (absC σ))) := by
  obtain ⟨P, hP⟩ : ∃ P : Option Value → Sg → Prop, P = (OkP σ (oMend (absC σ))) := ⟨_, rfl⟩
  rw [← hP]
  refine ct_of (lv := [(0, Rf G 0)]) (by decide +kernel) (Nat.le_of_ble_eq_true rfl) rfl ?_
  have hci0 := hci.us
  obtain ⟨hR, hC, hn, hT, hwt, hp6, h11, h13, hh, hl, hc⟩ := hci0
  have hT9 : nT (stC σ 1) = σ 2 := hci.T
  have hO9 := OkS_now hci
  have hwb := wcnt_bd (C := σ 1 1) (T := σ 2) (100 * (σ 1 0 - 1)).toNat
  have hw0 := wcnt_0 (C := σ 1 1) (T := σ 2) (100 * (σ 1 0 - 1)).toNat
  have hfb := wfst_bd (C := σ 1 1) (T := σ 2) (100 * (σ 1 0 - 1)).toNat
  obtain ⟨f, hf⟩ : ∃ f, f = wfst (σ 1 1) (σ 2) (100 * (σ 1 0 - 1)).toNat := ⟨_, rfl⟩
  rw [← hf] at hfb hw0
  have hwf : wF (stC σ 1) = f := by unfold wF; rw [hT9, hf]; rfl
  refine r_aload_n dX7_mend_0 rfl rfl ?_
  refine r_getR (b := 18) dX7_mend_1 sh0 rfl (ci := 7) (j := 5) rfl (Nat.le_of_ble_eq_true rfl) ixX7 q136 rfl ?_
  refine r_aload_n dX7_mend_4 rfl rfl ?_
  refine r_getR (b := 1) dX7_mend_5 sh0 rfl (ci := 7) (j := 0) rfl (Nat.le_of_ble_eq_true rfl) ixX7 q131 rfl ?_
  refine r_callV (tX2_save G σ  (hci.us.2.2.2.2.2.2.2.2.1) (hci.us.2.2.1.2)) dX7_mend_8 svX2_save q195 sh18 (ci := 2) rfl rfl rfl ⟨Nat.le_of_ble_eq_true rfl, Nat.le_of_ble_eq_true rfl⟩ (Nat.le_of_ble_eq_true rfl) ⟨Nat.le_of_ble_eq_true rfl, Nat.le_of_ble_eq_true rfl⟩ ?_
  rintro _ s ⟨rfl, hs⟩
  refine r_aload_n dX7_mend_11 rfl rfl ?_
  refine r_getR (b := 4) dX7_mend_12 sh0 rfl (ci := 7) (j := 1) rfl (Nat.le_of_ble_eq_true rfl) ixX7 q132 rfl ?_
  refine r_callV (tX3_examine G s  ((SaveP.ci hci hs).us.1) ((SaveP.ci hci hs).us.2.1) ((SaveP.ci hci hs).us.2.2.2.1)) dX7_mend_15 svX3_examine q243 sh4 (ci := 3) rfl rfl rfl ⟨Nat.le_of_ble_eq_true rfl, Nat.le_of_ble_eq_true rfl⟩ (Nat.le_of_ble_eq_true rfl) ⟨Nat.le_of_ble_eq_true rfl, Nat.le_of_ble_eq_true rfl⟩ ?_
  rintro _ _ ⟨rfl, rfl⟩
  obtain ⟨t, ht⟩ : ∃ t, t = exs s (100 * (s 1 0 - 1)) := ⟨_, rfl⟩
  rw [← ht]
  have hqt : Qs s t := by rw [ht]; exact Qs.ex
  have s1 : s 1 = σ 1 := hs.1 1 (by decide) (by decide)
  have s2 : s 2 = σ 2 := hs.1 2 (by decide) (by decide)
  have t43 : t 4 3 = wcnt (σ 1 1) (σ 2) (100 * (σ 1 0 - 1)).toNat := by rw [ht, exs_3, s1, s2]
  have t40 : t 4 0 = fdv f (f / 100) := by rw [ht, exs_0, s1, s2, ← hf]
  have t41 : t 4 1 = fdv f (f / 10 % 10) := by rw [ht, exs_1, s1, s2, ← hf]
  have t42 : t 4 2 = fdv f (f % 10) := by rw [ht, exs_2, s1, s2, ← hf]
  refine r_aload_n dX7_mend_18 rfl rfl ?_
  refine r_getR (b := 4) dX7_mend_19 sh0 rfl (ci := 7) (j := 1) rfl (Nat.le_of_ble_eq_true rfl) ixX7 q132 rfl ?_
  refine r_getI (z := 3) dX7_mend_22 sh4 rfl (ci := 3) (j := 3) rfl (Nat.le_of_ble_eq_true rfl) rfl ixX3 q66 rfl (hv := t43) ?_
  refine r_if_ne (tgt := 30) dX7_mend_25 (by decide) (by omega) (fun hb1 => ?_) (fun hb1 => ?_)
  · skip
    have hfn : f ≠ -1 := fun q => by have := hw0.2 q; omega
    have g0 : t 4 0 = f / 100 := by rw [t40]; exact if_neg hfn
    have g1 : t 4 1 = f / 10 % 10 := by rw [t41]; exact if_neg hfn
    have g2 : t 4 2 = f % 10 := by rw [t42]; exact if_neg hfn
    have hv9 := hT (10 * (f / 100 + 1) + f % 10)
    have hfb2 : 0 ≤ f ∧ f < 900 := by omega
    refine r_aload_n dX7_mend_30 rfl rfl ?_
    refine r_getR (b := 1) dX7_mend_31 sh0 rfl (ci := 7) (j := 0) rfl (Nat.le_of_ble_eq_true rfl) ixX7 q131 rfl ?_
    refine r_aload_n dX7_mend_34 rfl rfl ?_
    refine r_getR (b := 4) dX7_mend_35 sh0 rfl (ci := 7) (j := 1) rfl (Nat.le_of_ble_eq_true rfl) ixX7 q132 rfl ?_
    refine r_getI (z := 0) dX7_mend_38 sh4 rfl (ci := 3) (j := 0) rfl (Nat.le_of_ble_eq_true rfl) rfl ixX3 q60 rfl (hv := g0) ?_
    refine r_iconst dX7_mend_41 ?_
    refine r_iadd dX7_mend_42 ?_
    refine r_aload_n dX7_mend_43 rfl rfl ?_
    refine r_getR (b := 4) dX7_mend_44 sh0 rfl (ci := 7) (j := 1) rfl (Nat.le_of_ble_eq_true rfl) ixX7 q132 rfl ?_
    refine r_getI (z := 2) dX7_mend_47 sh4 rfl (ci := 3) (j := 2) rfl (Nat.le_of_ble_eq_true rfl) rfl ixX3 q64 rfl (hv := g2) ?_
    refine r_callV (tX5_numberAt G t ((f / 100) + 1) (f % 10) (by omega)) dX7_mend_50 svX5_numberAt q209 sh1 (ci := 5) rfl rfl rfl ⟨Nat.le_of_ble_eq_true rfl, Nat.le_of_ble_eq_true rfl⟩ (Nat.le_of_ble_eq_true rfl) ⟨Nat.le_of_ble_eq_true rfl, Nat.le_of_ble_eq_true rfl⟩ ?_
    rintro _ _ ⟨rfl, rfl⟩
    rw [show t 2 (10 * ((f / 100) + 1) + (f % 10)) = σ 2 (10 * ((f / 100) + 1) + (f % 10)) from (congrFun (hqt.1 2 (by decide)) (10 * ((f / 100) + 1) + (f % 10))).trans (congrFun (hs.1 2 (by decide) (by decide)) (10 * ((f / 100) + 1) + (f % 10)))]
    refine r_iconst dX7_mend_53 ?_
    refine r_iadd dX7_mend_54 ?_
    refine r_istore_n (lv' := [(0, Rf G 0), (1, I ((σ 2 (10 * ((f / 100) + 1) + (f % 10))) + 1))]) dX7_mend_55 rfl (Nat.le_of_ble_eq_true rfl) rfl ?_
    refine r_iload_n dX7_mend_56 rfl rfl ?_
    refine r_sipush dX7_mend_57 rfl ?_
    refine r_icmp_le (tgt := 65) dX7_mend_60 (by decide) (by omega) (fun hb2 => ?_) (fun hb2 => ?_)
    · skip
      refine r_aload_n dX7_mend_65 rfl rfl ?_
      refine r_getR (b := 1) dX7_mend_66 sh0 rfl (ci := 7) (j := 0) rfl (Nat.le_of_ble_eq_true rfl) ixX7 q131 rfl ?_
      refine r_aload_n dX7_mend_69 rfl rfl ?_
      refine r_getR (b := 4) dX7_mend_70 sh0 rfl (ci := 7) (j := 1) rfl (Nat.le_of_ble_eq_true rfl) ixX7 q132 rfl ?_
      refine r_getI (z := 0) dX7_mend_73 sh4 rfl (ci := 3) (j := 0) rfl (Nat.le_of_ble_eq_true rfl) rfl ixX3 q60 rfl (hv := g0) ?_
      refine r_iconst dX7_mend_76 ?_
      refine r_iadd dX7_mend_77 ?_
      refine r_aload_n dX7_mend_78 rfl rfl ?_
      refine r_getR (b := 4) dX7_mend_79 sh0 rfl (ci := 7) (j := 1) rfl (Nat.le_of_ble_eq_true rfl) ixX7 q132 rfl ?_
      refine r_getI (z := 1) dX7_mend_82 sh4 rfl (ci := 3) (j := 1) rfl (Nat.le_of_ble_eq_true rfl) rfl ixX3 q62 rfl (hv := g1) ?_
      refine r_iload_n dX7_mend_85 rfl rfl ?_
      refine r_callV (tX5_setNumber G t ((f / 100) + 1) (f / 10 % 10) ((σ 2 (10 * ((f / 100) + 1) + (f % 10))) + 1) (by omega)) dX7_mend_86 svX5_setNumber q213 sh1 (ci := 5) rfl rfl rfl ⟨Nat.le_of_ble_eq_true rfl, Nat.le_of_ble_eq_true rfl⟩ (Nat.le_of_ble_eq_true rfl) ⟨Nat.le_of_ble_eq_true rfl, Nat.le_of_ble_eq_true rfl⟩ ?_
      rintro _ _ ⟨rfl, rfl⟩
      refine r_aload_n dX7_mend_89 rfl rfl ?_
      refine r_getR (b := 1) dX7_mend_90 sh0 rfl (ci := 7) (j := 0) rfl (Nat.le_of_ble_eq_true rfl) ixX7 q131 rfl ?_
      refine r_dup dX7_mend_93 rfl ?_
      refine r_getI (z := 5) dX7_mend_94 sh1 rfl (ci := 5) (j := 5) rfl (Nat.le_of_ble_eq_true rfl) rfl ixX5 q49 rfl (hv := (congrFun (up_ne (by decide)) 5).trans ((congrFun (hqt.1 1 (by decide)) 5).trans (congrFun (hs.1 1 (by decide) (by decide)) 5))) ?_
      refine r_iconst dX7_mend_97 ?_
      refine r_iadd dX7_mend_98 ?_
      refine r_putI (z := 5) tyX5 dX7_mend_99 sh1 rfl (ci := 5) (j := 5) rfl (Nat.le_of_ble_eq_true rfl) rfl tyX5_ok nmX5 ixX5 q49 rfl rfl rfl ?_
      refine r_aload_n dX7_mend_102 rfl rfl ?_
      refine r_getR (b := 4) dX7_mend_103 sh0 rfl (ci := 7) (j := 1) rfl (Nat.le_of_ble_eq_true rfl) ixX7 q132 rfl ?_
      refine r_getI (z := 0) dX7_mend_106 sh4 rfl (ci := 3) (j := 0) rfl (Nat.le_of_ble_eq_true rfl) rfl ixX3 q60 rfl (hv := (congrFun (up_ne (by decide)) 0).trans ((congrFun (up_ne (by decide)) 0).trans (g0))) ?_
      exact r_iret dX7_mend_109 rfl (by rw [hP]; exact by have hTT := OkS_T hO9 (i := 10 * (f / 100 + 1) + f / 10 % 10) (v := σ 2 (10 * (f / 100 + 1) + f % 10) + 1) (by omega) (by omega); rw [hT9] at hTT; rw [oMend_e, hwf, hT9, if_neg hfn, if_neg (by omega)]; exact ⟨rfl, rfl, aft_k hci (Qs.refl σ) hs (Nc.u (Nc.u (Nc.q (Nc.refl s) hqt) (by decide)) (by decide)) ((σ 1 0, σ 1 1, σ 1 2, σ 1 3, σ 1 4, σ 1 5 + 1, fu (σ 2) (10 * (f / 100 + 1) + f / 10 % 10) (σ 2 (10 * (f / 100 + 1) + f % 10) + 1), nW (stC σ 1))) ((up_nj (by decide)).trans ((congrFun (up_ne (by decide)) 0).trans ((congrFun (hqt.1 1 (by decide)) 0).trans (congrFun (hs.1 1 (by decide) (by decide)) 0)))) ((up_nj (by decide)).trans ((congrFun (up_ne (by decide)) 1).trans ((congrFun (hqt.1 1 (by decide)) 1).trans (congrFun (hs.1 1 (by decide) (by decide)) 1)))) ((up_nj (by decide)).trans ((congrFun (up_ne (by decide)) 2).trans ((congrFun (hqt.1 1 (by decide)) 2).trans (congrFun (hs.1 1 (by decide) (by decide)) 2)))) ((up_nj (by decide)).trans ((congrFun (up_ne (by decide)) 3).trans ((congrFun (hqt.1 1 (by decide)) 3).trans (congrFun (hs.1 1 (by decide) (by decide)) 3)))) ((up_nj (by decide)).trans ((congrFun (up_ne (by decide)) 4).trans ((congrFun (hqt.1 1 (by decide)) 4).trans (congrFun (hs.1 1 (by decide) (by decide)) 4)))) up_eq (by rw [up_ne (by decide), fu_up, hqt.1 2 (by decide), s2]) (by rw [((up_ne (by decide)).trans ((up_ne (by decide)).trans ((hqt.1 3 (by decide)).trans (hs.1 3 (by decide) (by decide)))))]; rfl) ⟨hO9.1, hO9.2.1, hO9.2.2.1, hTT.1, hTT.2, hO9.2.2.2.2.2⟩⟩)
    · skip
      refine r_iconst dX7_mend_63 ?_
      exact r_iret dX7_mend_64 rfl (by rw [hP]; exact by rw [oMend_e, hwf, hT9, if_neg hfn, if_pos (by omega)]; exact ⟨rfl, rfl, aft_k hci (Qs.refl σ) hs (Nc.q (Nc.refl s) hqt) (stC σ 1) ((congrFun (hqt.1 1 (by decide)) 0).trans (congrFun (hs.1 1 (by decide) (by decide)) 0)) ((congrFun (hqt.1 1 (by decide)) 1).trans (congrFun (hs.1 1 (by decide) (by decide)) 1)) ((congrFun (hqt.1 1 (by decide)) 2).trans (congrFun (hs.1 1 (by decide) (by decide)) 2)) ((congrFun (hqt.1 1 (by decide)) 3).trans (congrFun (hs.1 1 (by decide) (by decide)) 3)) ((congrFun (hqt.1 1 (by decide)) 4).trans (congrFun (hs.1 1 (by decide) (by decide)) 4)) ((congrFun (hqt.1 1 (by decide)) 5).trans (congrFun (hs.1 1 (by decide) (by decide)) 5)) ((((hqt.1 2 (by decide)).trans (hs.1 2 (by decide) (by decide)))).trans hci.T.symm) (by rw [((hqt.1 3 (by decide)).trans (hs.1 3 (by decide) (by decide)))]; rfl) hO9⟩)
  · skip
    refine r_iconst dX7_mend_28 ?_
    exact r_iret dX7_mend_29 rfl (by rw [hP]; exact by rw [oMend_e, hwf, if_pos (hw0.1 (by omega))]; exact ⟨rfl, rfl, aft_k hci (Qs.refl σ) hs (Nc.q (Nc.refl s) hqt) (stC σ 1) ((congrFun (hqt.1 1 (by decide)) 0).trans (congrFun (hs.1 1 (by decide) (by decide)) 0)) ((congrFun (hqt.1 1 (by decide)) 1).trans (congrFun (hs.1 1 (by decide) (by decide)) 1)) ((congrFun (hqt.1 1 (by decide)) 2).trans (congrFun (hs.1 1 (by decide) (by decide)) 2)) ((congrFun (hqt.1 1 (by decide)) 3).trans (congrFun (hs.1 1 (by decide) (by decide)) 3)) ((congrFun (hqt.1 1 (by decide)) 4).trans (congrFun (hs.1 1 (by decide) (by decide)) 4)) ((congrFun (hqt.1 1 (by decide)) 5).trans (congrFun (hs.1 1 (by decide) (by decide)) 5)) ((((hqt.1 2 (by decide)).trans (hs.1 2 (by decide) (by decide)))).trans hci.T.symm) (by rw [((hqt.1 3 (by decide)).trans (hs.1 3 (by decide) (by decide)))]; rfl) hO9⟩)
set_option maxHeartbeats 1000000 in
set_option maxRecDepth 100000 in
theorem tX7_points (G : GT) (σ : Sg) (a b c d : Int) (hci : CI σ) (hrg : (-2147483648 ≤ a ∧ a ≤ 2147483647) ∧ (-2147483648 ≤ b ∧ b ≤ 2147483647) ∧ (-2147483648 ≤ c ∧ c ≤ 2147483647) ∧ (-2147483648 ≤ d ∧ d ≤ 2147483647)) : CtX G mX7_points 6 (SH Ω) [Rf G 0, I a, I b, I c, I d] σ (OkP σ (oPoints (absC σ) a b c d)) (ExP σ (oPoints (absC σ) a b c d) xE1 xE3) := by
  obtain ⟨P, hP⟩ : ∃ P : Option Value → Sg → Prop, P = (OkP σ (oPoints (absC σ) a b c d)) := ⟨_, rfl⟩
  obtain ⟨X, hX⟩ : ∃ X : String → Sg → Prop, X = (ExP σ (oPoints (absC σ) a b c d) xE1 xE3) := ⟨_, rfl⟩
  rw [← hP, ← hX]
  refine ctx_of (lv := [(0, Rf G 0), (1, I a), (2, I b), (3, I c), (4, I d)]) (by decide +kernel) (Nat.le_of_ble_eq_true rfl) rfl ?_
  have hci0 := hci.us
  obtain ⟨hR, hC, hn, hT, hwt, hp6, h11, h13, hh, hl, hc⟩ := hci0
  have hT9 : nT (stC σ 1) = σ 2 := hci.T
  have hO9 := OkS_now hci
  refine r_iload_n dX7_points_0 rfl rfl ?_
  refine r_iconst dX7_points_1 ?_
  refine r_bipush dX7_points_2 rfl ?_
  refine r_callS (tX7_isFromTo G σ a 0 50 (by omega)) dX7_points_4 svX7_isFromTo q186 rfl ⟨Nat.le_of_ble_eq_true rfl, Nat.le_of_ble_eq_true rfl⟩ (Nat.le_of_ble_eq_true rfl) ⟨Nat.le_of_ble_eq_true rfl, Nat.le_of_ble_eq_true rfl⟩ ?_
  rintro _ _ ⟨⟨hq1, rfl⟩ | ⟨hq1, rfl⟩, rfl⟩
  · skip
    refine r_if_eq (tgt := 41) dX7_points_7 (by decide) (by omega) (fun hb2 => ?_) (fun hb2 => ?_)
    · skip
      exact absurd hb2 (by omega)
    · skip
      refine r_iload_n dX7_points_10 rfl rfl ?_
      refine r_iconst dX7_points_11 ?_
      refine r_bipush dX7_points_12 rfl ?_
      refine r_callS (tX7_isFromTo G σ b 0 9 (by omega)) dX7_points_14 svX7_isFromTo q186 rfl ⟨Nat.le_of_ble_eq_true rfl, Nat.le_of_ble_eq_true rfl⟩ (Nat.le_of_ble_eq_true rfl) ⟨Nat.le_of_ble_eq_true rfl, Nat.le_of_ble_eq_true rfl⟩ ?_
      rintro _ _ ⟨⟨hq3, rfl⟩ | ⟨hq3, rfl⟩, rfl⟩
      · skip
        refine r_if_eq (tgt := 41) dX7_points_17 (by decide) (by omega) (fun hb4 => ?_) (fun hb4 => ?_)
        · skip
          exact absurd hb4 (by omega)
        · skip
          refine r_iload_n dX7_points_20 rfl rfl ?_
          refine r_iconst dX7_points_21 ?_
          refine r_bipush dX7_points_22 rfl ?_
          refine r_callS (tX7_isFromTo G σ c 0 50 (by omega)) dX7_points_24 svX7_isFromTo q186 rfl ⟨Nat.le_of_ble_eq_true rfl, Nat.le_of_ble_eq_true rfl⟩ (Nat.le_of_ble_eq_true rfl) ⟨Nat.le_of_ble_eq_true rfl, Nat.le_of_ble_eq_true rfl⟩ ?_
          rintro _ _ ⟨⟨hq5, rfl⟩ | ⟨hq5, rfl⟩, rfl⟩
          · skip
            refine r_if_eq (tgt := 41) dX7_points_27 (by decide) (by omega) (fun hb6 => ?_) (fun hb6 => ?_)
            · skip
              exact absurd hb6 (by omega)
            · skip
              refine r_iload dX7_points_30 rfl ?_
              refine r_iconst dX7_points_32 ?_
              refine r_bipush dX7_points_33 rfl ?_
              refine r_callS (tX7_isFromTo G σ d 0 9 (by omega)) dX7_points_35 svX7_isFromTo q186 rfl ⟨Nat.le_of_ble_eq_true rfl, Nat.le_of_ble_eq_true rfl⟩ (Nat.le_of_ble_eq_true rfl) ⟨Nat.le_of_ble_eq_true rfl, Nat.le_of_ble_eq_true rfl⟩ ?_
              rintro _ _ ⟨⟨hq7, rfl⟩ | ⟨hq7, rfl⟩, rfl⟩
              · skip
                refine r_if_ne (tgt := 51) dX7_points_38 (by decide) (by omega) (fun hb8 => ?_) (fun hb8 => ?_)
                · skip
                  refine r_aload_n dX7_points_51 rfl rfl ?_
                  refine r_getR (b := 18) dX7_points_52 sh0 rfl (ci := 7) (j := 5) rfl (Nat.le_of_ble_eq_true rfl) ixX7 q136 rfl ?_
                  refine r_aload_n dX7_points_55 rfl rfl ?_
                  refine r_getR (b := 1) dX7_points_56 sh0 rfl (ci := 7) (j := 0) rfl (Nat.le_of_ble_eq_true rfl) ixX7 q131 rfl ?_
                  refine r_callV (tX2_save G σ  (hci.us.2.2.2.2.2.2.2.2.1) (hci.us.2.2.1.2)) dX7_points_59 svX2_save q195 sh18 (ci := 2) rfl rfl rfl ⟨Nat.le_of_ble_eq_true rfl, Nat.le_of_ble_eq_true rfl⟩ (Nat.le_of_ble_eq_true rfl) ⟨Nat.le_of_ble_eq_true rfl, Nat.le_of_ble_eq_true rfl⟩ ?_
                  rintro _ s ⟨rfl, hs⟩
                  have s1 : s 1 = σ 1 := hs.1 1 (by decide) (by decide)
                  have s2 : s 2 = σ 2 := hs.1 2 (by decide) (by decide)
                  refine r_iconst dX7_points_62 ?_
                  refine r_istore (lv' := [(0, Rf G 0), (1, I a), (2, I b), (3, I c), (4, I d), (5, I 0)]) dX7_points_63 (Nat.le_of_ble_eq_true rfl) rfl ?_
                  have L65 : ∀ (mm : Nat) (r : Int) (u : Sg), (σ 1 0 - r).toNat = mm → (hr : 0 ≤ r ∧ r ≤ σ 1 0) → (hu : ∀ o, o ≠ 2 → u o = s o) → (hu2 : u 2 = ptL (10 * r) (σ 1 1) a b c d (σ 2)) → Rn G mX7_points (rmD 6 1 6) (EX G) (Zx G (SH Ω) P X) false (SH Ω) 0 0 65 [(0, Rf G 0), (1, I a), (2, I b), (3, I c), (4, I d), (5, I r)] [] u := by
                    intro mm
                    induction mm using Nat.strongRecOn with
                    | _ mm ih65 =>
                    intro r u hm65 hr hu hu2
                    refine r_iload dX7_points_65 rfl ?_
                    refine r_aload_n dX7_points_67 rfl rfl ?_
                    refine r_getR (b := 1) dX7_points_68 sh0 rfl (ci := 7) (j := 0) rfl (Nat.le_of_ble_eq_true rfl) ixX7 q131 rfl ?_
                    refine r_getI (z := 0) dX7_points_71 sh1 rfl (ci := 5) (j := 0) rfl (Nat.le_of_ble_eq_true rfl) rfl ixX5 q35 rfl (hv := (congrFun (hu 1 (by decide)) 0).trans (congrFun (hs.1 1 (by decide) (by decide)) 0)) ?_
                    refine r_icmp_ge (tgt := 142) dX7_points_74 (by decide) (by omega) (fun hb9 => ?_) (fun hb9 => ?_)
                    · skip
                      have hnu : Nc s u := ⟨fun o h => hu o (by omega), by rw [hu 15 (by decide)], fun h => by unfold ScC; rw [hu 6 (by decide), hu 11 (by decide), hu 13 (by decide)]; exact h⟩
                      have hu2F : u 2 = ptF (σ 1 0) (σ 1 1) a b c d (σ 2) := by rw [hu2, show r = σ 1 0 by omega]; rfl
                      refine r_aload_n dX7_points_142 rfl rfl ?_
                      refine r_getR (b := 4) dX7_points_143 sh0 rfl (ci := 7) (j := 1) rfl (Nat.le_of_ble_eq_true rfl) ixX7 q132 rfl ?_
                      refine r_callV (tX3_isKept G u  (by rw [hu 1 (by decide), s1]; exact hR) (by rw [hu 1 (by decide), s1]; exact hC) (by rw [hu2F]; have h := (ptF_ok hO9 (a := a) (b := b) (c := c) (d := d)).1; rw [hT9] at h; exact h)) dX7_points_146 svX3_isKept q224 sh4 (ci := 3) rfl rfl rfl ⟨Nat.le_of_ble_eq_true rfl, Nat.le_of_ble_eq_true rfl⟩ (Nat.le_of_ble_eq_true rfl) ⟨Nat.le_of_ble_eq_true rfl, Nat.le_of_ble_eq_true rfl⟩ ?_
                      rintro _ _ ⟨⟨hk, rfl⟩ | ⟨hk, rfl⟩, rfl⟩
                      · skip
                        rw [hu 1 (by decide), s1, hu2F] at hk
                        refine r_if_eq (tgt := 156) dX7_points_149 (by decide) (by omega) (fun hb10 => ?_) (fun hb10 => ?_)
                        · skip
                          exact absurd hb10 (by omega)
                        · skip
                          refine r_iconst dX7_points_152 ?_
                          refine r_goto (tgt := 157) dX7_points_153 (by decide) ?_
                          exact r_xl (r_widen (Nat.le_of_ble_eq_true rfl) (Nat.le_of_ble_eq_true rfl) (r_iret dX7_points_157 rfl (by rw [hP]; exact by rw [oPoints_e, hT9, if_pos (by omega)]; have hTT := ptF_ok hO9 (a := a) (b := b) (c := c) (d := d); rw [hT9] at hTT; (first | rw [if_pos hk] | rw [if_neg hk]); exact ⟨rfl, rfl, aft_k hci (Qs.refl σ) hs (Nc.q hnu Qs.ex) (setT (stC σ 1) (ptF (σ 1 0) (σ 1 1) a b c d (σ 2))) ((congrFun (Qs.ex.1 1 (by decide)) 0).trans ((congrFun (hu 1 (by decide)) 0).trans (congrFun (hs.1 1 (by decide) (by decide)) 0))) ((congrFun (Qs.ex.1 1 (by decide)) 1).trans ((congrFun (hu 1 (by decide)) 1).trans (congrFun (hs.1 1 (by decide) (by decide)) 1))) ((congrFun (Qs.ex.1 1 (by decide)) 2).trans ((congrFun (hu 1 (by decide)) 2).trans (congrFun (hs.1 1 (by decide) (by decide)) 2))) ((congrFun (Qs.ex.1 1 (by decide)) 3).trans ((congrFun (hu 1 (by decide)) 3).trans (congrFun (hs.1 1 (by decide) (by decide)) 3))) ((congrFun (Qs.ex.1 1 (by decide)) 4).trans ((congrFun (hu 1 (by decide)) 4).trans (congrFun (hs.1 1 (by decide) (by decide)) 4))) ((congrFun (Qs.ex.1 1 (by decide)) 5).trans ((congrFun (hu 1 (by decide)) 5).trans (congrFun (hs.1 1 (by decide) (by decide)) 5))) (by rw [Qs.ex.1 2 (by decide)]; exact hu2F) (by rw [((Qs.ex.1 3 (by decide)).trans ((hu 3 (by decide)).trans (hs.1 3 (by decide) (by decide))))]; rfl) ⟨hO9.1, hO9.2.1, hO9.2.2.1, hTT.1, hTT.2, hO9.2.2.2.2.2⟩⟩)))
                      · skip
                        rw [hu 1 (by decide), s1, hu2F] at hk
                        refine r_if_eq (tgt := 156) dX7_points_149 (by decide) (by omega) (fun hb11 => ?_) (fun hb11 => ?_)
                        · skip
                          refine r_iconst dX7_points_156 ?_
                          exact r_xl (r_widen (Nat.le_of_ble_eq_true rfl) (Nat.le_of_ble_eq_true rfl) (r_iret dX7_points_157 rfl (by rw [hP]; exact by rw [oPoints_e, hT9, if_pos (by omega)]; have hTT := ptF_ok hO9 (a := a) (b := b) (c := c) (d := d); rw [hT9] at hTT; (first | rw [if_pos hk] | rw [if_neg hk]); exact ⟨rfl, rfl, aft_k hci (Qs.refl σ) hs (Nc.q hnu Qs.ex) (setT (stC σ 1) (ptF (σ 1 0) (σ 1 1) a b c d (σ 2))) ((congrFun (Qs.ex.1 1 (by decide)) 0).trans ((congrFun (hu 1 (by decide)) 0).trans (congrFun (hs.1 1 (by decide) (by decide)) 0))) ((congrFun (Qs.ex.1 1 (by decide)) 1).trans ((congrFun (hu 1 (by decide)) 1).trans (congrFun (hs.1 1 (by decide) (by decide)) 1))) ((congrFun (Qs.ex.1 1 (by decide)) 2).trans ((congrFun (hu 1 (by decide)) 2).trans (congrFun (hs.1 1 (by decide) (by decide)) 2))) ((congrFun (Qs.ex.1 1 (by decide)) 3).trans ((congrFun (hu 1 (by decide)) 3).trans (congrFun (hs.1 1 (by decide) (by decide)) 3))) ((congrFun (Qs.ex.1 1 (by decide)) 4).trans ((congrFun (hu 1 (by decide)) 4).trans (congrFun (hs.1 1 (by decide) (by decide)) 4))) ((congrFun (Qs.ex.1 1 (by decide)) 5).trans ((congrFun (hu 1 (by decide)) 5).trans (congrFun (hs.1 1 (by decide) (by decide)) 5))) (by rw [Qs.ex.1 2 (by decide)]; exact hu2F) (by rw [((Qs.ex.1 3 (by decide)).trans ((hu 3 (by decide)).trans (hs.1 3 (by decide) (by decide))))]; rfl) ⟨hO9.1, hO9.2.1, hO9.2.2.1, hTT.1, hTT.2, hO9.2.2.2.2.2⟩⟩)))
                        · skip
                          exact absurd hb11 (by omega)
                    · skip
                      refine r_iconst dX7_points_77 ?_
                      refine r_istore (lv' := [(0, Rf G 0), (1, I a), (2, I b), (3, I c), (4, I d), (5, I r), (6, I 0)]) dX7_points_78 (Nat.le_of_ble_eq_true rfl) rfl ?_
                      have L80 : ∀ (mm : Nat) (k : Int) (v : Sg), (σ 1 1 - k).toNat = mm → (hk : 0 ≤ k ∧ k ≤ σ 1 1) → (hv : ∀ o, o ≠ 2 → v o = s o) → (hv2 : v 2 = ptL (10 * r + k) (σ 1 1) a b c d (σ 2)) → Rn G mX7_points (rmD 6 1 6) (EX G) (Zx G (SH Ω) P X) false (SH Ω) 0 0 80 [(0, Rf G 0), (1, I a), (2, I b), (3, I c), (4, I d), (5, I r), (6, I k)] [] v := by
                        intro mm
                        induction mm using Nat.strongRecOn with
                        | _ mm ih80 =>
                        intro k v hm80 hk hv hv2
                        refine r_iload dX7_points_80 rfl ?_
                        refine r_aload_n dX7_points_82 rfl rfl ?_
                        refine r_getR (b := 1) dX7_points_83 sh0 rfl (ci := 7) (j := 0) rfl (Nat.le_of_ble_eq_true rfl) ixX7 q131 rfl ?_
                        refine r_getI (z := 1) dX7_points_86 sh1 rfl (ci := 5) (j := 1) rfl (Nat.le_of_ble_eq_true rfl) rfl ixX5 q39 rfl (hv := (congrFun (hv 1 (by decide)) 1).trans (congrFun (hs.1 1 (by decide) (by decide)) 1)) ?_
                        refine r_icmp_ge (tgt := 136) dX7_points_89 (by decide) (by omega) (fun hb12 => ?_) (fun hb12 => ?_)
                        · skip
                          refine r_iinc (lv' := [(0, Rf G 0), (1, I a), (2, I b), (3, I c), (4, I d), (5, I (r + 1)), (6, I k)]) dX7_points_136 (Nat.le_of_ble_eq_true rfl) rfl rfl ?_
                          refine r_goto (tgt := 65) dX7_points_139 (by decide) ?_
                          refine r_sub [0, 1, 2, 3, 4, 5] rfl ?_
                          exact ih65 _ (by omega) (r + 1) _ rfl (by omega) (hv) (by rw [hv2, show k = σ 1 1 by omega]; exact ptL_k hC)
                        · skip
                          refine r_iload_n dX7_points_92 rfl rfl ?_
                          refine r_iload_n dX7_points_93 rfl rfl ?_
                          refine r_iload dX7_points_94 rfl ?_
                          refine r_imul dX7_points_96 ?_
                          refine r_iadd dX7_points_97 ?_
                          refine r_iload_n dX7_points_98 rfl rfl ?_
                          refine r_iload dX7_points_99 rfl ?_
                          refine r_iload dX7_points_101 rfl ?_
                          refine r_imul dX7_points_103 ?_
                          refine r_iadd dX7_points_104 ?_
                          refine r_isub dX7_points_105 ?_
                          refine r_istore (lv' := [(0, Rf G 0), (1, I a), (2, I b), (3, I c), (4, I d), (5, I r), (6, I k), (7, I ((a + (b * r)) - (c + (d * k))))]) dX7_points_106 (Nat.le_of_ble_eq_true rfl) rfl ?_
                          obtain ⟨e, he⟩ : ∃ z, z = (a + (b * r)) - (c + (d * k)) := ⟨_, rfl⟩
                          rw [← he]
                          have m1 := mul9 (x := b) (y := r) (by omega) (by omega)
                          have m2 := mul9 (x := d) (y := k) (by omega) (by omega)
                          have heb : -131 ≤ e ∧ e ≤ 131 := by omega
                          have hsq := sq131 heb
                          refine r_aload_n dX7_points_108 rfl rfl ?_
                          refine r_getR (b := 1) dX7_points_109 sh0 rfl (ci := 7) (j := 0) rfl (Nat.le_of_ble_eq_true rfl) ixX7 q131 rfl ?_
                          refine r_iload dX7_points_112 rfl ?_
                          refine r_iload dX7_points_114 rfl ?_
                          refine r_iload dX7_points_116 rfl ?_
                          refine r_iload dX7_points_118 rfl ?_
                          refine r_imul dX7_points_120 ?_
                          refine r_sipush dX7_points_121 rfl ?_
                          refine r_callS (tJ9_min_7cf53 G v (e * e) 9999 (by omega)) dX7_points_124 svJ9_min_7cf53 q221 rfl ⟨Nat.le_of_ble_eq_true rfl, Nat.le_of_ble_eq_true rfl⟩ (Nat.le_of_ble_eq_true rfl) ⟨Nat.le_of_ble_eq_true rfl, Nat.le_of_ble_eq_true rfl⟩ ?_
                          rintro _ _ ⟨rfl, rfl⟩
                          refine r_callV (tX5_setNumber G v r k (mn (e * e) 9999) (by omega)) dX7_points_127 svX5_setNumber q213 sh1 (ci := 5) rfl rfl rfl ⟨Nat.le_of_ble_eq_true rfl, Nat.le_of_ble_eq_true rfl⟩ (Nat.le_of_ble_eq_true rfl) ⟨Nat.le_of_ble_eq_true rfl, Nat.le_of_ble_eq_true rfl⟩ ?_
                          rintro _ _ ⟨rfl, rfl⟩
                          refine r_iinc (lv' := [(0, Rf G 0), (1, I a), (2, I b), (3, I c), (4, I d), (5, I r), (6, I (k + 1)), (7, I e)]) dX7_points_130 (Nat.le_of_ble_eq_true rfl) rfl rfl ?_
                          refine r_goto (tgt := 80) dX7_points_133 (by decide) ?_
                          refine r_sub [0, 1, 2, 3, 4, 5, 6] rfl ?_
                          exact ih80 _ (by omega) (k + 1) _ rfl (by omega) (fun o ho => by rw [up_ne ho]; exact hv o ho) (by rw [fu_up, hv2, ptL_s (by omega) (by omega) (by rw [far_at (by omega), ← he]), show 10 * r + (k + 1) = 10 * r + k + 1 by omega])
                      exact L80 _ 0 _ rfl (by omega) (hu) (by rw [hu2, Int.add_zero])
                  exact L65 _ 0 _ rfl (by omega) (fun _ _ => rfl) (by rw [s2]; exact ptL_0)
                · skip
                  exact absurd hb8 (by omega)
              · skip
                refine r_if_ne (tgt := 51) dX7_points_38 (by decide) (by omega) (fun hb13 => ?_) (fun hb13 => ?_)
                · skip
                  exact absurd hb13 (by omega)
                · skip
                  exact r_throw xg1 xn1 rfl q187 q12 stl107 xf1 xo1 dX7_points_41 dX7_points_44 dX7_points_45 dX7_points_47 dX7_points_50 (Nat.le_of_ble_eq_true rfl) (Nat.le_of_ble_eq_true rfl) (Nat.le_of_ble_eq_true rfl) (Nat.le_of_ble_eq_true rfl) (by rw [hX]; exact by rw [oPoints_e]; first | (rw [if_neg (by omega)]; exact ⟨Or.inl ⟨rfl, rfl⟩, ((Qs.refl σ)).done hci⟩) | (rw [if_pos (by omega), if_neg (by omega)]; exact ⟨Or.inr ⟨rfl, rfl⟩, ((Qs.refl σ)).done hci⟩) | (rw [if_pos (by omega), if_pos (by omega)]; exact ⟨Or.inr ⟨rfl, rfl⟩, ((Qs.refl σ)).done hci⟩))
          · skip
            refine r_if_eq (tgt := 41) dX7_points_27 (by decide) (by omega) (fun hb14 => ?_) (fun hb14 => ?_)
            · skip
              exact r_throw xg1 xn1 rfl q187 q12 stl107 xf1 xo1 dX7_points_41 dX7_points_44 dX7_points_45 dX7_points_47 dX7_points_50 (Nat.le_of_ble_eq_true rfl) (Nat.le_of_ble_eq_true rfl) (Nat.le_of_ble_eq_true rfl) (Nat.le_of_ble_eq_true rfl) (by rw [hX]; exact by rw [oPoints_e]; first | (rw [if_neg (by omega)]; exact ⟨Or.inl ⟨rfl, rfl⟩, ((Qs.refl σ)).done hci⟩) | (rw [if_pos (by omega), if_neg (by omega)]; exact ⟨Or.inr ⟨rfl, rfl⟩, ((Qs.refl σ)).done hci⟩) | (rw [if_pos (by omega), if_pos (by omega)]; exact ⟨Or.inr ⟨rfl, rfl⟩, ((Qs.refl σ)).done hci⟩))
            · skip
              exact absurd hb14 (by omega)
      · skip
        refine r_if_eq (tgt := 41) dX7_points_17 (by decide) (by omega) (fun hb15 => ?_) (fun hb15 => ?_)
        · skip
          exact r_throw xg1 xn1 rfl q187 q12 stl107 xf1 xo1 dX7_points_41 dX7_points_44 dX7_points_45 dX7_points_47 dX7_points_50 (Nat.le_of_ble_eq_true rfl) (Nat.le_of_ble_eq_true rfl) (Nat.le_of_ble_eq_true rfl) (Nat.le_of_ble_eq_true rfl) (by rw [hX]; exact by rw [oPoints_e]; first | (rw [if_neg (by omega)]; exact ⟨Or.inl ⟨rfl, rfl⟩, ((Qs.refl σ)).done hci⟩) | (rw [if_pos (by omega), if_neg (by omega)]; exact ⟨Or.inr ⟨rfl, rfl⟩, ((Qs.refl σ)).done hci⟩) | (rw [if_pos (by omega), if_pos (by omega)]; exact ⟨Or.inr ⟨rfl, rfl⟩, ((Qs.refl σ)).done hci⟩))
        · skip
          exact absurd hb15 (by omega)
  · skip
    refine r_if_eq (tgt := 41) dX7_points_7 (by decide) (by omega) (fun hb16 => ?_) (fun hb16 => ?_)
    · skip
      exact r_throw xg1 xn1 rfl q187 q12 stl107 xf1 xo1 dX7_points_41 dX7_points_44 dX7_points_45 dX7_points_47 dX7_points_50 (Nat.le_of_ble_eq_true rfl) (Nat.le_of_ble_eq_true rfl) (Nat.le_of_ble_eq_true rfl) (Nat.le_of_ble_eq_true rfl) (by rw [hX]; exact by rw [oPoints_e]; first | (rw [if_neg (by omega)]; exact ⟨Or.inl ⟨rfl, rfl⟩, ((Qs.refl σ)).done hci⟩) | (rw [if_pos (by omega), if_neg (by omega)]; exact ⟨Or.inr ⟨rfl, rfl⟩, ((Qs.refl σ)).done hci⟩) | (rw [if_pos (by omega), if_pos (by omega)]; exact ⟨Or.inr ⟨rfl, rfl⟩, ((Qs.refl σ)).done hci⟩))
    · skip
      exact absurd hb16 (by omega)
