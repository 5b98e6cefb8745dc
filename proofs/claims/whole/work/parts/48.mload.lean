
theorem Qm.rf {ρ w : Sg} (h : RFr ρ w) : Qm ρ w := ⟨fun a ha => h.1 a (by omega) (by omega), ⟨h.2 2 (by decide) (by decide) (by decide), h.2 6 (by decide) (by decide) (by decide)⟩, fun q => by unfold P52; rw [h.1 52 (by decide) (by decide)]; exact q⟩
theorem mlen {σ : Sg} (hc : IM σ) : (absM σ).2.2.2.2.length = (σ 46 6).toNat := by have := mbl hc; omega
theorem wh_er {σ ρ w : Sg} {b : Int} (hc : IM σ) (hq : Qm σ ρ) (h : WhP ρ w b) : w 46 14 = erF (fun _ => 0) (gB (absM σ).2.2.2.2) (absM σ).2.2.2.2.length := by
  obtain ⟨-, q, ⟨h1, h2⟩, h3, -⟩ := h
  have h6 := hc.2.2.1
  have e6 := hq.2.1.2
  rw [mlen hc, ← erF_AR (g := ρ 56) (f := ρ 51) (σ 46 6).toNat (fun i a c => by rw [hq.1 51 (by omega)]; exact (gB_bf ⟨a, by omega⟩).symm)]
  rcases h3 with h3 | h3
  · rw [h3] at h1
    rw [← e6, erF_full h1, h3]; omega
  · exact (erF_stop h2.1 h1 h3 (σ 46 6).toNat (by omega)).symm
theorem wh_ar {σ ρ : Sg} (hc : IM σ) (hq : Qm σ ρ) : (rnF (ρ 56) (ρ 51) (σ 46 6).toNat = none ∧ rnF (fun _ => 0) (gB (absM σ).2.2.2.2) (absM σ).2.2.2.2.length = none) ∨ ∃ q p, rnF (ρ 56) (ρ 51) (σ 46 6).toNat = some q ∧ rnF (fun _ => 0) (gB (absM σ).2.2.2.2) (absM σ).2.2.2.2.length = some p ∧ AB q ∧ AR q p := by
  have h6 := hc.2.2.1
  rw [mlen hc]
  exact rnF_AR (g := ρ 56) (f := ρ 51) (σ 46 6).toNat (fun i a c => by rw [hq.1 51 (by omega)]; exact (gB_bf ⟨a, by omega⟩).symm)
theorem ld_no {σ ρ w : Sg} (hc : IM σ) (hq : Qm σ ρ) (h : WhP ρ w 0) : oLoad (absM σ) = (1, 0, absM σ) := by
  obtain ⟨-, q, ⟨h1, h2⟩, h3, h4⟩ := h
  have h6 := hc.2.2.1
  have e6 := hq.2.1.2
  have h5 : ¬ (w 46 14 = ρ 46 6 ∧ Tls q) := by
    rcases h4 with h4 | h4
    · exact absurd h4.1 (by decide)
    · exact h4.2
  unfold oLoad
  rcases wh_ar hc hq with ⟨-, g2⟩ | ⟨q', p, g1, g2, g3, g4⟩
  · rw [g2]
  · rw [g2]
    show (if _ then _ else _) = _
    have hw : w 46 14 = ρ 46 6 := by
      rcases h3 with h3 | h3
      · exact h3
      · by_cases e : w 46 14 = ρ 46 6
        · exact e
        · exfalso
          have h7 : rnF (ρ 56) (ρ 51) (w 46 14 + 1).toNat = none := by rw [rnF_s h2.1 h1, h3]
          have h8 := rnF_none h7 ((σ 46 6).toNat - (w 46 14 + 1).toNat)
          rw [show (w 46 14 + 1).toNat + ((σ 46 6).toNat - (w 46 14 + 1).toNat) = (σ 46 6).toNat by omega] at h8
          rw [h8] at g1; cases g1
    rw [hw, e6, g1] at h1
    cases h1
    rw [if_neg]
    intro z
    apply h5
    obtain ⟨e1, e2, e3, e4, -⟩ := g4
    exact ⟨hw, by rw [e4]; exact z.1, by rw [e1, e2, e3]; exact z.2⟩
theorem ld_y {σ ρ w : Sg} (hc : IM σ) (hq : Qm σ ρ) (h : WhP ρ w 1) : (1 ≤ w 46 16 ∧ w 46 16 ≤ 10) ∧ (1 ≤ w 46 17 ∧ w 46 17 ≤ 10) ∧ (∀ r c, 0 ≤ r → r < w 46 16 → 0 ≤ c → c < w 46 17 → 0 ≤ w 56 (10 * r + c) ∧ w 56 (10 * r + c) ≤ 9999) ∧
    oLoad (absM σ) = (0, 11 * w 46 16 + w 46 17, setB (svA (absM σ) (w 46 16, w 46 17, σ 47 5, σ 47 2, σ 47 3, σ 47 4, ldL (10 * w 46 16) (w 46 17) (w 56) (tM (σ 47)), nW (st0 (σ 47)))) []) := by
  obtain ⟨-, q, ⟨h1, h2⟩, h3, h4⟩ := h
  have h6 := hc.2.2.1
  have e6 := hq.2.1.2
  rcases h4 with ⟨-, w14, w1, w2, w3, w4⟩ | h4
  · rcases wh_ar hc hq with ⟨g1, -⟩ | ⟨q', p, g1, g2, g3, g4⟩
    · rw [w14, e6, g1] at h1; cases h1
    · rw [w14, e6, g1] at h1
      cases h1
      obtain ⟨e1, e2, e3, e4, -, hg⟩ := g4
      have hB := g3
      simp only [AB] at hB
      have ht := w1.2
      have ht1 := w1.1
      have key : ∀ r c, 0 ≤ r → r < w 46 16 → 0 ≤ c → c < w 46 17 → w 56 (10 * r + c) = p.2.2.2.2.2 (10 * r + c) ∧ 0 ≤ w 56 (10 * r + c) ∧ w 56 (10 * r + c) ≤ 9999 := fun r c a b d e => by
        rw [w4]
        apply hg r c
        show (0 ≤ r ∧ r < q.1 ∧ 0 ≤ c ∧ c < q.2.2.1) ∨ (r = q.1 ∧ 0 ≤ c ∧ (c < q.2.1 ∨ (c = q.2.1 ∧ 0 < q.2.2.2.1)))
        omega
      refine ⟨by omega, by omega, fun r c a b d e => (key r c a b d e).2, ?_⟩
      rw [ldL_c (fun r c a b d e => (key r c a b d e).1)]
      unfold oLoad
      rw [g2]
      show (if _ then _ else _) = _
      rw [if_pos ⟨by rw [← e4]; exact ht1, by rw [← e1, ← e2, ← e3]; exact ht⟩, w2, w3, e1, e2]
      rfl
  · exact absurd h4.1 (by decide)
theorem ld_ok {σ : Sg} {R C : Int} {g : Int → Int} (hc : IM σ) (hR : 1 ≤ R ∧ R ≤ 10) (hC : 1 ≤ C ∧ C ≤ 10) (hg : ∀ r c, 0 ≤ r → r < R → 0 ≤ c → c < C → 0 ≤ g (10 * r + c) ∧ g (10 * r + c) ≤ 9999) : OkS (R, C, σ 47 5, σ 47 2, σ 47 3, σ 47 4, ldL (10 * R) C g (tM (σ 47)), nW (st0 (σ 47))) := by
  have hO : OkS (st0 (σ 47)) := hc.2.2.2.2.1
  refine ⟨hR, hC, hO.2.2.1, fun j => ?_, fun j hj => ?_, hO.2.2.2.2.2⟩
  · show 0 ≤ ldL _ _ _ _ j ∧ ldL _ _ _ _ j ≤ 9999
    unfold ldL
    by_cases q : (0 ≤ j ∧ j < 10 * R) ∧ j % 10 < C
    · rw [if_pos q]
      have := hg (j / 10) (j % 10) (by omega) (by omega) (by omega) q.2
      rw [show 10 * (j / 10) + j % 10 = j by omega] at this
      exact this
    · rw [if_neg q]; exact hc.us.2.2.2.1 j
  · show ldL _ _ _ _ j = 0
    unfold ldL
    rw [if_neg (by omega)]
    exact hO.2.2.2.2.1 j hj
theorem ldL_n {k C : Int} {g T : Int → Int} (h : ¬ k % 10 < C) : ldL (k + 1) C g T = ldL k C g T := by
  funext i
  unfold ldL
  by_cases q : (0 ≤ i ∧ i < k) ∧ i % 10 < C
  · rw [if_pos q, if_pos (by omega)]
  · rw [if_neg q, if_neg (fun z => q ⟨⟨z.1.1, by
      rcases (show i < k ∨ i = k by omega) with y | y
      · exact y
      · exact absurd z.2 (by rw [y]; exact h)⟩, z.2⟩)]
theorem ld_end {σ ρ w s u : Sg} (hc : IM σ) (hq : Qm σ ρ) (h : WhP ρ w 1) (hs : SavM w s) (hn : Nm s u) (h6 : u 46 6 = 0) (h7 : u 46 7 = 0) (h0 : u 47 0 = w 46 16) (h1 : u 47 1 = w 46 17) (hj : ∀ j, 2 ≤ j → j < 16 → u 47 j = σ 47 j) (hT : tM (u 47) = ldL (10 * w 46 16) (w 46 17) (w 56) (tM (σ 47))) : MkP σ (oLoad (absM σ)) (some (I (11 * w 46 16 + w 46 17))) u := by
  obtain ⟨b1, b2, b3, b4⟩ := ld_y hc hq h
  have hn5 := hc.us.2.2.1
  rw [b4]
  refine ⟨rfl, h7, aftM hc (hq.tr (Qm.rf h.1)) hs hn [] (by rw [h6]; omega) (by rw [h6]; rfl) (fun d hd => by cases hd) _ h0 h1 (hj 5 (by decide) (by decide)) (hj 2 (by decide) (by decide)) (hj 3 (by decide) (by decide)) (hj 4 (by decide) (by decide)) (fun i p r => ?_) (fun i p r => ?_) (ld_ok hc b1 b2 b3)⟩
  · rw [show u 47 (16 + i) = tM (u 47) i from tM_at ⟨p, r⟩, hT]
  · have r : i < σ 47 5 := r
    rw [hj (6 + i) (by omega) (by omega)]; exact rs7 p r

set_option maxHeartbeats 1000000 in
set_option maxRecDepth 100000 in
theorem tX8_firstError (G : GT) (σ : Sg)  (hmi : IM σ) : Ct G mX8_firstError 6 0 0 false SH SH [Rf G 46] σ (MkP σ (oFirst (absM σ))) := by
  obtain ⟨P, hP⟩ : ∃ P : Option Value → Sg → Prop, P = (MkP σ (oFirst (absM σ))) := ⟨_, rfl⟩
  rw [← hP]
  refine ct_of (lv := [(0, Rf G 46)]) (by decide +kernel) (Nat.le_of_ble_eq_true rfl) rfl ?_
  obtain ⟨hR, hC, hn, hT, hwt, hp52, h2, h6, hbf⟩ := hmi.us
  have hO9 : OkS (st0 (σ 47)) := hmi.2.2.2.2.1
  refine r_aload_n dX8_firstError_0 rfl rfl ?_
  refine r_iconst dX8_firstError_1 ?_
  refine r_putI (z := 7) tyX8 dX8_firstError_2 sh46 rfl (ci := 8) (j := 7) rfl (Nat.le_of_ble_eq_true rfl) rfl tyX8_ok nmX8 ixX8 q649 rfl rfl rfl ?_
  refine r_aload_n dX8_firstError_5 rfl rfl ?_
  refine r_callV (tX8_isWhole G (up σ 46 7 0) (((Qm.u7 (σ := σ) (j := 7) (v := 0) (by decide)).ci hmi).us.2.2.2.2.2.2.2.1) (((Qm.u7 (σ := σ) (j := 7) (v := 0) (by decide)).ci hmi).us.2.2.2.2.2.2.2.2)) dX8_firstError_6 svX8_isWhole q776 sh46 (ci := 8) rfl rfl rfl ⟨Nat.le_of_ble_eq_true rfl, Nat.le_of_ble_eq_true rfl⟩ (Nat.le_of_ble_eq_true rfl) ⟨Nat.le_of_ble_eq_true rfl, Nat.le_of_ble_eq_true rfl⟩ ?_
  rintro _ w (⟨rfl, hw⟩ | ⟨rfl, hw⟩)
  · skip
    refine r_if_eq (tgt := 19) dX8_firstError_9 (by decide) (by omega) (fun hb1 => ?_) (fun hb1 => ?_)
    · skip
      exact absurd hb1 (by omega)
    · skip
      refine r_aload_n dX8_firstError_12 rfl rfl ?_
      refine r_getI (z := 6) dX8_firstError_13 sh46 rfl (ci := 8) (j := 6) rfl (Nat.le_of_ble_eq_true rfl) rfl ixX8 q648 rfl (hv := (hw.1.2 6 (by decide) (by decide) (by decide)).trans (up_nj (by decide))) ?_
      refine r_goto (tgt := 23) dX8_firstError_16 (by decide) ?_
      exact r_iret dX8_firstError_23 rfl (by rw [hP]; exact ⟨by show some (I (erF (fun _ => 0) (gB (absM σ).2.2.2.2) (absM σ).2.2.2.2.length)) = _; rw [← wh_er hmi (Qm.u7 (σ := σ) (j := 7) (v := 0) (by decide)) hw]; try (obtain ⟨-, _, -, -, z⟩ := hw; rcases z with z | z; (rw [z.2.1, up_nj (by decide)]); (exact absurd z.1 (by decide))), ((hw.1.2 7 (by decide) (by decide) (by decide)).trans (up_eq)), ((((Qm.refl σ).tr (Qm.u7 (σ := σ) (j := 7) (v := 0) (by decide))).tr (Qm.rf hw.1))).done hmi⟩)
  · skip
    refine r_if_eq (tgt := 19) dX8_firstError_9 (by decide) (by omega) (fun hb2 => ?_) (fun hb2 => ?_)
    · skip
      refine r_aload_n dX8_firstError_19 rfl rfl ?_
      refine r_getI (z := 14) dX8_firstError_20 sh46 rfl (ci := 8) (j := 14) rfl (Nat.le_of_ble_eq_true rfl) rfl ixX8 q656 rfl (hv := rfl) ?_
      exact r_iret dX8_firstError_23 rfl (by rw [hP]; exact ⟨by show some (I (erF (fun _ => 0) (gB (absM σ).2.2.2.2) (absM σ).2.2.2.2.length)) = _; rw [← wh_er hmi (Qm.u7 (σ := σ) (j := 7) (v := 0) (by decide)) hw]; try (obtain ⟨-, _, -, -, z⟩ := hw; rcases z with z | z; (rw [z.2.1, up_nj (by decide)]); (exact absurd z.1 (by decide))), ((hw.1.2 7 (by decide) (by decide) (by decide)).trans (up_eq)), ((((Qm.refl σ).tr (Qm.u7 (σ := σ) (j := 7) (v := 0) (by decide))).tr (Qm.rf hw.1))).done hmi⟩)
    · skip
      exact absurd hb2 (by omega)
set_option maxHeartbeats 1000000 in
set_option maxRecDepth 100000 in
theorem tX8_load (G : GT) (σ : Sg)  (hmi : IM σ) : Ct G mX8_load 6 0 0 false SH SH [Rf G 46] σ (MkP σ (oLoad (absM σ))) := by
  obtain ⟨P, hP⟩ : ∃ P : Option Value → Sg → Prop, P = (MkP σ (oLoad (absM σ))) := ⟨_, rfl⟩
  rw [← hP]
  refine ct_of (lv := [(0, Rf G 46)]) (by decide +kernel) (Nat.le_of_ble_eq_true rfl) rfl ?_
  obtain ⟨hR, hC, hn, hT, hwt, hp52, h2, h6, hbf⟩ := hmi.us
  have hO9 : OkS (st0 (σ 47)) := hmi.2.2.2.2.1
  refine r_aload_n dX8_load_0 rfl rfl ?_
  refine r_iconst dX8_load_1 ?_
  refine r_putI (z := 7) tyX8 dX8_load_2 sh46 rfl (ci := 8) (j := 7) rfl (Nat.le_of_ble_eq_true rfl) rfl tyX8_ok nmX8 ixX8 q649 rfl rfl rfl ?_
  refine r_aload_n dX8_load_5 rfl rfl ?_
  refine r_callV (tX8_isWhole G (up σ 46 7 0) (((Qm.u7 (σ := σ) (j := 7) (v := 0) (by decide)).ci hmi).us.2.2.2.2.2.2.2.1) (((Qm.u7 (σ := σ) (j := 7) (v := 0) (by decide)).ci hmi).us.2.2.2.2.2.2.2.2)) dX8_load_6 svX8_isWhole q776 sh46 (ci := 8) rfl rfl rfl ⟨Nat.le_of_ble_eq_true rfl, Nat.le_of_ble_eq_true rfl⟩ (Nat.le_of_ble_eq_true rfl) ⟨Nat.le_of_ble_eq_true rfl, Nat.le_of_ble_eq_true rfl⟩ ?_
  rintro _ w (⟨rfl, hw⟩ | ⟨rfl, hw⟩)
  · skip
    refine r_if_ne (tgt := 18) dX8_load_9 (by decide) (by omega) (fun hb1 => ?_) (fun hb1 => ?_)
    · skip
      refine r_aload_n dX8_load_18 rfl rfl ?_
      refine r_callV (tX8_saves G w  (((Qm.rf hw.1).ci ((Qm.u7 (σ := σ) (j := 7) (v := 0) (by decide)).ci hmi)))) dX8_load_19 svX8_saves q677 sh46 (ci := 8) rfl rfl rfl ⟨Nat.le_of_ble_eq_true rfl, Nat.le_of_ble_eq_true rfl⟩ (Nat.le_of_ble_eq_true rfl) ⟨Nat.le_of_ble_eq_true rfl, Nat.le_of_ble_eq_true rfl⟩ ?_
      rintro _ s ⟨rfl, hs⟩
      refine r_aload_n dX8_load_22 rfl rfl ?_
      refine r_iconst dX8_load_23 ?_
      refine r_putI (z := 6) tyX8 dX8_load_24 sh46 rfl (ci := 8) (j := 6) rfl (Nat.le_of_ble_eq_true rfl) rfl tyX8_ok nmX8 ixX8 q648 rfl rfl rfl ?_
      refine r_aload_n dX8_load_27 rfl rfl ?_
      refine r_getR (b := 47) dX8_load_28 sh46 rfl (ci := 8) (j := 0) rfl (Nat.le_of_ble_eq_true rfl) ixX8 q642 rfl ?_
      refine r_iconst dX8_load_31 ?_
      refine r_aload_n dX8_load_32 rfl rfl ?_
      refine r_getI (z := 16) dX8_load_33 sh46 rfl (ci := 8) (j := 16) rfl (Nat.le_of_ble_eq_true rfl) rfl ixX8 q658 rfl (hv := (up_nj (by decide)).trans (hs.2.1 16 (by decide))) ?_
      refine r_iast dX8_load_36 sh47 (by omega) ?_
      refine r_aload_n dX8_load_37 rfl rfl ?_
      refine r_getR (b := 47) dX8_load_38 sh46 rfl (ci := 8) (j := 0) rfl (Nat.le_of_ble_eq_true rfl) ixX8 q642 rfl ?_
      refine r_iconst dX8_load_41 ?_
      refine r_aload_n dX8_load_42 rfl rfl ?_
      refine r_getI (z := 17) dX8_load_43 sh46 rfl (ci := 8) (j := 17) rfl (Nat.le_of_ble_eq_true rfl) rfl ixX8 q659 rfl (hv := (congrFun (up_ne (by decide)) 17).trans ((up_nj (by decide)).trans (hs.2.1 17 (by decide)))) ?_
      refine r_iast dX8_load_46 sh47 (by omega) ?_
      obtain ⟨u0, hu9⟩ : ∃ z : Sg, z = up (up (up s 46 6 0) 47 0 (w 46 16)) 47 1 (w 46 17) := ⟨_, rfl⟩
      rw [← hu9]
      have hu0 : ∀ o, o ≠ 46 → o ≠ 47 → u0 o = s o := fun o h h2 => by rw [hu9, up_ne h2, up_ne h2, up_ne h]
      have u00 : u0 47 0 = w 46 16 := by rw [hu9, up_nj (by decide), up_eq]
      have u01 : u0 47 1 = w 46 17 := by rw [hu9, up_eq]
      have s46 : ∀ j, j ≠ 2 → s 46 j = w 46 j := hs.2.1
      have u46 : ∀ j, j ≠ 6 → u0 46 j = s 46 j := fun j h => by rw [hu9, up_ne (by decide), up_ne (by decide), up_nj h]
      have u466 : u0 46 6 = 0 := by rw [hu9, up_ne (by decide), up_ne (by decide), up_eq]
      have hsw : s 47 = σ 47 := by rw [hs.1 47 (by decide) (by decide), hw.1.1 47 (by decide) (by decide), up_ne (by decide)]
      have u0j : ∀ j, 2 ≤ j → u0 47 j = σ 47 j := fun j h => by rw [hu9, up_nj (by omega), up_nj (by omega), up_ne (by decide), hsw]
      have hN0 : Nm s u0 := by rw [hu9]; exact Nm.u (Nm.u (Nm.v (Nm.refl s) (by decide)))
      obtain ⟨b1, b2, b3, -⟩ := ld_y hmi (Qm.u7 (σ := σ) (j := 7) (v := 0) (by decide)) hw
      have u016 : u0 46 16 = w 46 16 := (u46 16 (by decide)).trans (s46 16 (by decide))
      have u017 : u0 46 17 = w 46 17 := (u46 17 (by decide)).trans (s46 17 (by decide))
      have u056 : u0 56 = w 56 := (hu0 56 (by decide) (by decide)).trans (hs.1 56 (by decide) (by decide))
      have hT0 : tM (u0 47) = tM (σ 47) := by funext i; unfold tM; by_cases c : 0 ≤ i ∧ i < 100; (rw [if_pos c, if_pos c, u0j (16 + i) (by omega)]); (rw [if_neg c, if_neg c])
      refine r_iconst dX8_load_47 ?_
      refine r_istore_n (lv' := [(0, Rf G 46), (1, I 0)]) dX8_load_48 rfl (Nat.le_of_ble_eq_true rfl) rfl ?_
      have L49 : ∀ (mm : Nat) (k : Int) (u : Sg), (10 * w 46 16 - k).toNat = mm → (hkk : 0 ≤ k ∧ k ≤ 10 * w 46 16) → (hu : ∀ o, o ≠ 47 → u o = u0 o) → (hul : ∀ j, j < 16 → u 47 j = u0 47 j) → (hu2 : tM (u 47) = ldL k (w 46 17) (w 56) (tM (σ 47))) → Rn G mX8_load (rmD 6 0 0) E0 (Zn G false SH P 0 0) false SH 0 0 49 [(0, Rf G 46), (1, I k)] [] u := by
        intro mm
        induction mm using Nat.strongRecOn with
        | _ mm ih49 =>
        intro k u hm49 hkk hu hul hu2
        refine r_iload_n dX8_load_49 rfl rfl ?_
        refine r_bipush dX8_load_50 rfl ?_
        refine r_aload_n dX8_load_52 rfl rfl ?_
        refine r_getI (z := 16) dX8_load_53 sh46 rfl (ci := 8) (j := 16) rfl (Nat.le_of_ble_eq_true rfl) rfl ixX8 q658 rfl (hv := ((congrFun (hu 46 (by decide)) 16)).trans (u016)) ?_
        refine r_imul dX8_load_56 ?_
        refine r_icmp_ge (tgt := 95) dX8_load_57 (by decide) (by omega) (fun hb2 => ?_) (fun hb2 => ?_)
        · skip
          refine r_bipush dX8_load_95 rfl ?_
          refine r_aload_n dX8_load_97 rfl rfl ?_
          refine r_getI (z := 16) dX8_load_98 sh46 rfl (ci := 8) (j := 16) rfl (Nat.le_of_ble_eq_true rfl) rfl ixX8 q658 rfl (hv := ((congrFun (hu 46 (by decide)) 16)).trans (u016)) ?_
          refine r_imul dX8_load_101 ?_
          refine r_aload_n dX8_load_102 rfl rfl ?_
          refine r_getI (z := 17) dX8_load_103 sh46 rfl (ci := 8) (j := 17) rfl (Nat.le_of_ble_eq_true rfl) rfl ixX8 q659 rfl (hv := ((congrFun (hu 46 (by decide)) 17)).trans (u017)) ?_
          refine r_iadd dX8_load_106 ?_
          exact r_iret dX8_load_107 rfl (by rw [hP]; exact ld_end hmi (Qm.u7 (σ := σ) (j := 7) (v := 0) (by decide)) hw hs ⟨fun a h => by rw [hu a (by omega)]; exact hN0.1 a h, by rw [hu 46 (by decide)]; exact hN0.2.1, fun q => by have := hN0.2.2 q; unfold P52 at this ⊢; rw [hu 52 (by decide)]; exact this⟩ (by rw [hu 46 (by decide), u466]) (by rw [hu 46 (by decide), u46 7 (by decide), s46 7 (by decide), hw.1.2 7 (by decide) (by decide) (by decide), up_eq]) (by rw [hul 0 (by decide), u00]) (by rw [hul 1 (by decide), u01]) (fun j h1 h2 => by rw [hul j h2, u0j j h1]) (by rw [hu2, show k = 10 * w 46 16 by omega]))
        · skip
          refine r_iload_n dX8_load_60 rfl rfl ?_
          refine r_bipush dX8_load_61 rfl ?_
          refine r_irem dX8_load_63 (by omega) ?_
          refine r_aload_n dX8_load_64 rfl rfl ?_
          refine r_getI (z := 17) dX8_load_65 sh46 rfl (ci := 8) (j := 17) rfl (Nat.le_of_ble_eq_true rfl) rfl ixX8 q659 rfl (hv := ((congrFun (hu 46 (by decide)) 17)).trans (u017)) ?_
          refine r_icmp_ge (tgt := 89) dX8_load_68 (by decide) (by omega) (fun hb3 => ?_) (fun hb3 => ?_)
          · skip
            refine r_iinc (lv' := [(0, Rf G 46), (1, I (k + 1))]) dX8_load_89 (Nat.le_of_ble_eq_true rfl) rfl rfl ?_
            refine r_goto (tgt := 49) dX8_load_92 (by decide) ?_
            exact ih49 _ (by omega) (k + 1) _ rfl (by omega) (by first | exact hu | (intro o ho; rw [up_ne ho]; exact hu o ho)) (by first | exact hul | (intro j hj; rw [up_nj (by omega)]; exact hul j hj)) (by first | (rw [ldL_n (by omega)]; exact hu2) | (rw [fu_up, show 10 * (k / 10) + k % 10 = k by omega, tM_fu (by omega), hu2, ldL_s (by omega) (by omega) rfl]))
          · skip
            refine r_aload_n dX8_load_71 rfl rfl ?_
            refine r_iload_n dX8_load_72 rfl rfl ?_
            refine r_bipush dX8_load_73 rfl ?_
            refine r_idiv dX8_load_75 (by omega) ?_
            refine r_iload_n dX8_load_76 rfl rfl ?_
            refine r_bipush dX8_load_77 rfl ?_
            refine r_irem dX8_load_79 (by omega) ?_
            refine r_aload_n dX8_load_80 rfl rfl ?_
            refine r_getR (b := 56) dX8_load_81 sh46 rfl (ci := 8) (j := 15) rfl (Nat.le_of_ble_eq_true rfl) ixX8 q657 rfl ?_
            refine r_iload_n dX8_load_84 rfl rfl ?_
            refine r_iald dX8_load_85 sh56 (by omega) (hv := (congrFun (hu 56 (by decide)) k).trans ((congrFun u056 k))) ?_
            refine r_callV (tX8_becomes G u (k / 10) (k % 10) (w 56 k) (by omega)) dX8_load_86 svX8_becomes q696 sh46 (ci := 8) rfl rfl rfl ⟨Nat.le_of_ble_eq_true rfl, Nat.le_of_ble_eq_true rfl⟩ (Nat.le_of_ble_eq_true rfl) ⟨Nat.le_of_ble_eq_true rfl, Nat.le_of_ble_eq_true rfl⟩ ?_
            rintro _ _ ⟨rfl, rfl⟩
            refine r_iinc (lv' := [(0, Rf G 46), (1, I (k + 1))]) dX8_load_89 (Nat.le_of_ble_eq_true rfl) rfl rfl ?_
            refine r_goto (tgt := 49) dX8_load_92 (by decide) ?_
            exact ih49 _ (by omega) (k + 1) _ rfl (by omega) (by first | exact hu | (intro o ho; rw [up_ne ho]; exact hu o ho)) (by first | exact hul | (intro j hj; rw [up_nj (by omega)]; exact hul j hj)) (by first | (rw [ldL_n (by omega)]; exact hu2) | (rw [fu_up, show 10 * (k / 10) + k % 10 = k by omega, tM_fu (by omega), hu2, ldL_s (by omega) (by omega) rfl]))
      exact L49 _ 0 _ rfl (by omega) (fun _ _ => rfl) (fun _ _ => rfl) (by rw [hT0]; exact ldL_0)
    · skip
      exact absurd hb1 (by omega)
  · skip
    refine r_if_ne (tgt := 18) dX8_load_9 (by decide) (by omega) (fun hb4 => ?_) (fun hb4 => ?_)
    · skip
      exact absurd hb4 (by omega)
    · skip
      refine r_aload_n dX8_load_12 rfl rfl ?_
      refine r_iconst dX8_load_13 ?_
      refine r_callV (tX8_refuses G w 1) dX8_load_14 svX8_refuses q674 sh46 (ci := 8) rfl rfl rfl ⟨Nat.le_of_ble_eq_true rfl, Nat.le_of_ble_eq_true rfl⟩ (Nat.le_of_ble_eq_true rfl) ⟨Nat.le_of_ble_eq_true rfl, Nat.le_of_ble_eq_true rfl⟩ ?_
      rintro _ _ ⟨rfl, rfl⟩
      exact r_iret dX8_load_17 rfl (by rw [hP]; exact by rw [ld_no hmi (Qm.u7 (σ := σ) (j := 7) (v := 0) (by decide)) hw]; exact ⟨rfl, up_eq, (((((Qm.refl σ).tr (Qm.u7 (σ := σ) (j := 7) (v := 0) (by decide))).tr (Qm.rf hw.1)).tr (Qm.u7 (σ := w) (j := 7) (v := 1) (by decide)))).done hmi⟩)
