variable {Ω : List Ob}

theorem dp_rs {σ : Sg} {p : Int} (h : 1 ≤ p ∧ p ≤ σ 1 2) : dpC (nW (stC σ 1)) p.toNat (σ 1 2) = dpC (σ 3) p.toNat (σ 1 2) := dpC_c (n := σ 1 2) (fun r a b => rs_at ⟨a, b⟩) p.toNat _ (by omega) (Int.le_refl _)
theorem SaveP.ci {σ s : Sg} (hc : CI σ) (hs : SaveP σ s) : CI s :=
  (aft hc hs (fun _ _ => rfl) rfl id (by rw [hs.1 2 (by decide) (by omega)]; exact hc.2.2.2.2.1) (by rw [stC_c (hs.1 1 (by decide) (by omega)) (hs.1 2 (by decide) (by omega)) (hs.1 3 (by decide) (by omega))]; exact OkS_now hc)).1
theorem rs_add {n v : Int} {f : Int → Int} (h : 0 ≤ n) : rs (n + 1) (fu f n v) = fu (rs n f) n v := by
  funext j
  unfold rs fu
  by_cases e : j = n
  · rw [if_pos e, if_pos e, if_pos (by omega)]
  · rw [if_neg e, if_neg e]
    show _ = if 0 ≤ j ∧ j < n then f j else 0
    by_cases c : 0 ≤ j ∧ j < n
    · rw [if_pos c, if_pos (by omega)]
    · rw [if_neg c, if_neg (by omega)]
theorem rs_sub {n : Int} {f : Int → Int} : rs (n - 1) f = fu (rs n f) (n - 1) 0 := by
  funext j
  unfold rs fu
  by_cases e : j = n - 1
  · rw [if_pos e, if_neg (by omega)]
  · rw [if_neg e]
    show _ = if 0 ≤ j ∧ j < n then f j else 0
    by_cases c : 0 ≤ j ∧ j < n
    · rw [if_pos c, if_pos (by omega)]
    · rw [if_neg c, if_neg (by omega)]
theorem OkS_add {x : St} (h : OkS x) {v : Int} (hn : x.2.2.1 < 10) (hv : 1 ≤ v ∧ v ≤ 99) : OkS (x.1, x.2.1, x.2.2.1 + 1, x.2.2.2.1, x.2.2.2.2.1, x.2.2.2.2.2.1, nT x, fu (nW x) x.2.2.1 v) := by
  obtain ⟨h1, h2, h3, h4, h5, h6, h7⟩ := h
  refine ⟨h1, h2, ⟨by show 1 ≤ x.2.2.1 + 1; omega, by show x.2.2.1 + 1 ≤ 10; omega⟩, h4, h5, fun i a b => ?_, fun i a => ?_⟩
  · have b : i < x.2.2.1 + 1 := b
    show 1 ≤ fu (nW x) x.2.2.1 v i ∧ fu (nW x) x.2.2.1 v i ≤ 99
    unfold fu
    by_cases e : i = x.2.2.1
    · rw [if_pos e]; exact hv
    · rw [if_neg e]; exact h6 i a (by omega)
  · have a : i < 0 ∨ x.2.2.1 + 1 ≤ i := a
    show fu (nW x) x.2.2.1 v i = 0
    unfold fu
    rw [if_neg (by omega)]
    exact h7 i (by omega)
theorem OkS_sub {x : St} (h : OkS x) (hn : 1 < x.2.2.1) : OkS (x.1, x.2.1, x.2.2.1 - 1, x.2.2.2.1, x.2.2.2.2.1, x.2.2.2.2.2.1, nT x, fu (nW x) (x.2.2.1 - 1) 0) := by
  obtain ⟨h1, h2, h3, h4, h5, h6, h7⟩ := h
  refine ⟨h1, h2, ⟨by show 1 ≤ x.2.2.1 - 1; omega, by show x.2.2.1 - 1 ≤ 10; omega⟩, h4, h5, fun i a b => ?_, fun i a => ?_⟩
  · have b : i < x.2.2.1 - 1 := b
    show 1 ≤ fu (nW x) (x.2.2.1 - 1) 0 i ∧ fu (nW x) (x.2.2.1 - 1) 0 i ≤ 99
    unfold fu
    rw [if_neg (by omega)]; exact h6 i a (by omega)
  · have a : i < 0 ∨ x.2.2.1 - 1 ≤ i := a
    show fu (nW x) (x.2.2.1 - 1) 0 i = 0
    unfold fu
    by_cases e : i = x.2.2.1 - 1
    · rw [if_pos e]
    · rw [if_neg e]; exact h7 i (by omega)
theorem bfC_len {g : Int → Int} {n : Int} (h : 0 ≤ n) : ((bfC g n).length : Int) = n := by unfold bfC; rw [List.length_map, List.length_range]; omega
theorem bl {σ : Sg} (hc : CI σ) : ((absC σ).2.2.2.2.length : Int) = σ 15 0 := bfC_len hc.2.2.1.1
theorem bfC_add {g : Int → Int} {n c : Int} (h : 0 ≤ n) : bfC (fu g n c) (n + 1) = bfC g n ++ [c] := by
  unfold bfC
  rw [show (n + 1).toNat = n.toNat + 1 by omega, List.range_succ, List.map_append]
  congr 1
  · apply List.map_congr_left
    intro r hr
    have hr := List.mem_range.mp hr
    unfold fu
    rw [if_neg (by omega)]
  · show [fu g n c ((n.toNat : Nat) : Int)] = [c]
    unfold fu
    rw [if_pos (by omega)]
/-- changes of the buffer alone -/
theorem buf_done {σ τ : Sg} {l : List Int} (hc : CI σ) (hf : ∀ a, a ≠ 15 → a ≠ 16 → τ a = σ a) (hn : 0 ≤ τ 15 0 ∧ τ 15 0 ≤ 60) (hl : bfC (τ 16) (τ 15 0) = l) (ho : ∀ c ∈ l, 33 ≤ c ∧ c ≤ 126) : Done σ τ (setB (absC σ) l) := by
  have hx : absC τ = setB (absC σ) l := by
    unfold absC setB
    rw [hl, stC_c (hf 1 (by decide) (by decide)) (hf 2 (by decide) (by decide)) (hf 3 (by decide) (by decide)), hiC_c (fun a h1 h2 => hf a (by omega) (by omega)),
      slC_c (hf 38 (by omega) (by omega)) (hf 39 (by omega) (by omega)) (hf 40 (by omega) (by omega)) (hf 41 (by omega) (by omega)), slC_c (hf 42 (by omega) (by omega)) (hf 43 (by omega) (by omega)) (hf 44 (by omega) (by omega)) (hf 45 (by omega) (by omega))]
  obtain ⟨a1, a2, a3, a4, a5, a6, a7, a8, a9, a10, a11, a12⟩ := hc
  refine ⟨⟨?_, ?_, hn, ?_, ?_, ?_⟩, hx, fun a ha => hf a (by omega) (by omega)⟩
  · unfold ScC; rw [hf 6 (by decide) (by decide), hf 11 (by decide) (by decide), hf 13 (by decide) (by decide)]; exact a1
  · unfold HistOK; rw [hf 18 (by decide) (by decide)]; exact a2
  · rw [hf 38 (by decide) (by decide), hf 42 (by decide) (by decide)]; exact a4
  · rw [hf 2 (by decide) (by decide)]; exact a5
  · rw [hx]
    refine ⟨a6, a7, a8, a9, a10, ?_, ho⟩
    have := bfC_len (g := τ 16) hn.1
    rw [hl] at this
    show l.length ≤ 60
    omega

set_option maxHeartbeats 1000000 in
set_option maxRecDepth 100000 in
theorem tX7_cost (G : GT) (σ : Sg) (p k : Int) (hci : CI σ) (hrg : (-2147483648 ≤ p ∧ p ≤ 2147483647) ∧ (-2147483648 ≤ k ∧ k ≤ 2147483647)) : CtX G mX7_cost 17 (SH Ω) [Rf G 0, I p, I k] σ (OkP σ (oCost (absC σ) p k)) (ExP σ (oCost (absC σ) p k) xE1 xE3) := by
  obtain ⟨P, hP⟩ : ∃ P : Option Value → Sg → Prop, P = (OkP σ (oCost (absC σ) p k)) := ⟨_, rfl⟩
  obtain ⟨X, hX⟩ : ∃ X : String → Sg → Prop, X = (ExP σ (oCost (absC σ) p k) xE1 xE3) := ⟨_, rfl⟩
  rw [← hP, ← hX]
  refine ctx_of (lv := [(0, Rf G 0), (1, I p), (2, I k)]) (by decide +kernel) (Nat.le_of_ble_eq_true rfl) rfl ?_
  have hci0 := hci.us
  obtain ⟨hR, hC, hn, hT, hwt, hp6, h11, h13, hh, hl, hc⟩ := hci0
  have hT9 : nT (stC σ 1) = σ 2 := hci.T
  have hO9 := OkS_now hci
  refine r_iload_n dX7_cost_0 rfl rfl ?_
  refine r_iconst dX7_cost_1 ?_
  refine r_aload_n dX7_cost_2 rfl rfl ?_
  refine r_getR (b := 1) dX7_cost_3 sh0 rfl (ci := 7) (j := 0) rfl (Nat.le_of_ble_eq_true rfl) ixX7 q131 rfl ?_
  refine r_getI (z := 2) dX7_cost_6 sh1 rfl (ci := 5) (j := 2) rfl (Nat.le_of_ble_eq_true rfl) rfl ixX5 q43 rfl (hv := rfl) ?_
  refine r_callS (tX7_isFromTo G σ p 1 (σ 1 2) (by omega)) dX7_cost_9 svX7_isFromTo q186 rfl ⟨Nat.le_of_ble_eq_true rfl, Nat.le_of_ble_eq_true rfl⟩ (Nat.le_of_ble_eq_true rfl) ⟨Nat.le_of_ble_eq_true rfl, Nat.le_of_ble_eq_true rfl⟩ ?_
  rintro _ _ ⟨⟨hq1, rfl⟩ | ⟨hq1, rfl⟩, rfl⟩
  · skip
    refine r_if_eq (tgt := 24) dX7_cost_12 (by decide) (by omega) (fun hb2 => ?_) (fun hb2 => ?_)
    · skip
      exact absurd hb2 (by omega)
    · skip
      refine r_iload_n dX7_cost_15 rfl rfl ?_
      refine r_iconst dX7_cost_16 ?_
      refine r_iconst dX7_cost_17 ?_
      refine r_callS (tX7_isFromTo G σ k 0 1 (by omega)) dX7_cost_18 svX7_isFromTo q186 rfl ⟨Nat.le_of_ble_eq_true rfl, Nat.le_of_ble_eq_true rfl⟩ (Nat.le_of_ble_eq_true rfl) ⟨Nat.le_of_ble_eq_true rfl, Nat.le_of_ble_eq_true rfl⟩ ?_
      rintro _ _ ⟨⟨hq3, rfl⟩ | ⟨hq3, rfl⟩, rfl⟩
      · skip
        refine r_if_ne (tgt := 35) dX7_cost_21 (by decide) (by omega) (fun hb4 => ?_) (fun hb4 => ?_)
        · skip
          refine r_iload_n dX7_cost_35 rfl rfl ?_
          refine r_if_ne (tgt := 55) dX7_cost_36 (by decide) (by omega) (fun hb5 => ?_) (fun hb5 => ?_)
          · skip
            refine r_aload_n dX7_cost_55 rfl rfl ?_
            refine r_getR (b := 10) dX7_cost_56 sh0 rfl (ci := 7) (j := 3) rfl (Nat.le_of_ble_eq_true rfl) ixX7 q134 rfl ?_
            refine r_callV (tX0_tryAllCuts G σ  (hci.us.2.2.1) (hci.us.2.2.2.2.1)) dX7_cost_59 svX0_tryAllCuts q498 sh10 (ci := 0) rfl rfl rfl ⟨Nat.le_of_ble_eq_true rfl, Nat.le_of_ble_eq_true rfl⟩ (Nat.le_of_ble_eq_true rfl) ⟨Nat.le_of_ble_eq_true rfl, Nat.le_of_ble_eq_true rfl⟩ ?_
            rintro _ t ⟨rfl, hp⟩
            refine r_aload_n dX7_cost_62 rfl rfl ?_
            refine r_getR (b := 10) dX7_cost_63 sh0 rfl (ci := 7) (j := 3) rfl (Nat.le_of_ble_eq_true rfl) ixX7 q134 rfl ?_
            refine r_iload_n dX7_cost_66 rfl rfl ?_
            refine r_callV (tX0_triedCost G t p (by omega)) dX7_cost_67 svX0_triedCost q510 sh10 (ci := 0) rfl rfl rfl ⟨Nat.le_of_ble_eq_true rfl, Nat.le_of_ble_eq_true rfl⟩ (Nat.le_of_ble_eq_true rfl) ⟨Nat.le_of_ble_eq_true rfl, Nat.le_of_ble_eq_true rfl⟩ ?_
            rintro _ _ ⟨rfl, rfl⟩
            rw [hp.2 p (by omega) (by omega)]
            exact r_xl (r_widen (Nat.le_of_ble_eq_true rfl) (Nat.le_of_ble_eq_true rfl) (r_iret dX7_cost_70 rfl (by rw [hP]; exact by rw [oCost_e, if_pos (by omega), dp_rs (by omega)]; exact ⟨rfl, rfl, ((((Qs.refl σ)).tr (Qs.ty hp))).done hci⟩)))
          · skip
            refine r_aload_n dX7_cost_39 rfl rfl ?_
            refine r_getR (b := 10) dX7_cost_40 sh0 rfl (ci := 7) (j := 3) rfl (Nat.le_of_ble_eq_true rfl) ixX7 q134 rfl ?_
            refine r_callV (tX0_planCuts G σ  (hci.us.2.2.1) (hci.us.2.2.2.2.1) (hci.us.2.2.2.2.2.2.1) (hci.us.2.2.2.2.2.2.2.1)) dX7_cost_43 svX0_planCuts q483 sh10 (ci := 0) rfl rfl rfl ⟨Nat.le_of_ble_eq_true rfl, Nat.le_of_ble_eq_true rfl⟩ (Nat.le_of_ble_eq_true rfl) ⟨Nat.le_of_ble_eq_true rfl, Nat.le_of_ble_eq_true rfl⟩ ?_
            rintro _ t ⟨rfl, hp⟩
            have e1 : t 1 = σ 1 := hp.1 1 (by decide) (by decide) (by decide)
            have e3 : t 3 = σ 3 := hp.1 3 (by decide) (by decide) (by decide)
            refine r_aload_n dX7_cost_46 rfl rfl ?_
            refine r_getR (b := 10) dX7_cost_47 sh0 rfl (ci := 7) (j := 3) rfl (Nat.le_of_ble_eq_true rfl) ixX7 q134 rfl ?_
            refine r_iload_n dX7_cost_50 rfl rfl ?_
            refine r_callV (tX0_plannedCost G t p (by rw [e1]; omega)) dX7_cost_51 svX0_plannedCost q494 sh10 (ci := 0) rfl rfl rfl ⟨Nat.le_of_ble_eq_true rfl, Nat.le_of_ble_eq_true rfl⟩ (Nat.le_of_ble_eq_true rfl) ⟨Nat.le_of_ble_eq_true rfl, Nat.le_of_ble_eq_true rfl⟩ ?_
            rintro _ _ ⟨rfl, rfl⟩
            rw [show t 1 2 = σ 1 2 from congrFun (hp.1 1 (by decide) (by decide) (by decide)) 2]
            rw [(hp.2.2.2 p (σ 1 2) (by omega) (by omega) (Int.le_refl _)).1]
            exact r_xl (r_widen (Nat.le_of_ble_eq_true rfl) (Nat.le_of_ble_eq_true rfl) (r_iret dX7_cost_54 rfl (by rw [hP]; exact by rw [oCost_e, if_pos (by omega), dp_rs (by omega)]; exact ⟨rfl, rfl, ((((Qs.refl σ)).tr (Qs.pl hp))).done hci⟩)))
        · skip
          exact absurd hb4 (by omega)
      · skip
        refine r_if_ne (tgt := 35) dX7_cost_21 (by decide) (by omega) (fun hb6 => ?_) (fun hb6 => ?_)
        · skip
          exact absurd hb6 (by omega)
        · skip
          exact r_throwW xg1 xn1 rfl q187 q12 stl256 xf1 xo1 dX7_cost_24 dX7_cost_27 dX7_cost_28 dX7_cost_31 dX7_cost_34 (Nat.le_of_ble_eq_true rfl) (Nat.le_of_ble_eq_true rfl) (Nat.le_of_ble_eq_true rfl) (Nat.le_of_ble_eq_true rfl) (by rw [hX]; exact by rw [oCost_e]; first | (rw [if_neg (by omega)]; exact ⟨Or.inl ⟨rfl, rfl⟩, ((Qs.refl σ)).done hci⟩) | (rw [if_pos (by omega), if_neg (by omega)]; exact ⟨Or.inr ⟨rfl, rfl⟩, ((Qs.refl σ)).done hci⟩) | (rw [if_pos (by omega), if_pos (by omega)]; exact ⟨Or.inr ⟨rfl, rfl⟩, ((Qs.refl σ)).done hci⟩))
  · skip
    refine r_if_eq (tgt := 24) dX7_cost_12 (by decide) (by omega) (fun hb7 => ?_) (fun hb7 => ?_)
    · skip
      exact r_throwW xg1 xn1 rfl q187 q12 stl256 xf1 xo1 dX7_cost_24 dX7_cost_27 dX7_cost_28 dX7_cost_31 dX7_cost_34 (Nat.le_of_ble_eq_true rfl) (Nat.le_of_ble_eq_true rfl) (Nat.le_of_ble_eq_true rfl) (Nat.le_of_ble_eq_true rfl) (by rw [hX]; exact by rw [oCost_e]; first | (rw [if_neg (by omega)]; exact ⟨Or.inl ⟨rfl, rfl⟩, ((Qs.refl σ)).done hci⟩) | (rw [if_pos (by omega), if_neg (by omega)]; exact ⟨Or.inr ⟨rfl, rfl⟩, ((Qs.refl σ)).done hci⟩) | (rw [if_pos (by omega), if_pos (by omega)]; exact ⟨Or.inr ⟨rfl, rfl⟩, ((Qs.refl σ)).done hci⟩))
    · skip
      exact absurd hb7 (by omega)
set_option maxHeartbeats 1000000 in
set_option maxRecDepth 100000 in
theorem tX7_cut (G : GT) (σ : Sg) (p c : Int) (hci : CI σ) (hrg : (-2147483648 ≤ p ∧ p ≤ 2147483647) ∧ (-2147483648 ≤ c ∧ c ≤ 2147483647)) : CtX G mX7_cut 6 (SH Ω) [Rf G 0, I p, I c] σ (OkP σ (oCut (absC σ) p c)) (ExP σ (oCut (absC σ) p c) xE1 xE3) := by
  obtain ⟨P, hP⟩ : ∃ P : Option Value → Sg → Prop, P = (OkP σ (oCut (absC σ) p c)) := ⟨_, rfl⟩
  obtain ⟨X, hX⟩ : ∃ X : String → Sg → Prop, X = (ExP σ (oCut (absC σ) p c) xE1 xE3) := ⟨_, rfl⟩
  rw [← hP, ← hX]
  refine ctx_of (lv := [(0, Rf G 0), (1, I p), (2, I c)]) (by decide +kernel) (Nat.le_of_ble_eq_true rfl) rfl ?_
  have hci0 := hci.us
  obtain ⟨hR, hC, hn, hT, hwt, hp6, h11, h13, hh, hl, hc⟩ := hci0
  have hT9 : nT (stC σ 1) = σ 2 := hci.T
  have hO9 := OkS_now hci
  refine r_iload_n dX7_cut_0 rfl rfl ?_
  refine r_iconst dX7_cut_1 ?_
  refine r_aload_n dX7_cut_2 rfl rfl ?_
  refine r_getR (b := 1) dX7_cut_3 sh0 rfl (ci := 7) (j := 0) rfl (Nat.le_of_ble_eq_true rfl) ixX7 q131 rfl ?_
  refine r_getI (z := 2) dX7_cut_6 sh1 rfl (ci := 5) (j := 2) rfl (Nat.le_of_ble_eq_true rfl) rfl ixX5 q43 rfl (hv := rfl) ?_
  refine r_callS (tX7_isFromTo G σ p 1 (σ 1 2) (by omega)) dX7_cut_9 svX7_isFromTo q186 rfl ⟨Nat.le_of_ble_eq_true rfl, Nat.le_of_ble_eq_true rfl⟩ (Nat.le_of_ble_eq_true rfl) ⟨Nat.le_of_ble_eq_true rfl, Nat.le_of_ble_eq_true rfl⟩ ?_
  rintro _ _ ⟨⟨hq1, rfl⟩ | ⟨hq1, rfl⟩, rfl⟩
  · skip
    refine r_if_eq (tgt := 19) dX7_cut_12 (by decide) (by omega) (fun hb2 => ?_) (fun hb2 => ?_)
    · skip
      exact absurd hb2 (by omega)
    · skip
      refine r_iload_n dX7_cut_15 rfl rfl ?_
      refine r_if_ge (tgt := 30) dX7_cut_16 (by decide) (by omega) (fun hb3 => ?_) (fun hb3 => ?_)
      · skip
        refine r_iload_n dX7_cut_30 rfl rfl ?_
        refine r_iload_n dX7_cut_31 rfl rfl ?_
        refine r_iconst dX7_cut_32 ?_
        refine r_isub dX7_cut_33 ?_
        refine r_icmp_lt (tgt := 39) dX7_cut_34 (by decide) (by omega) (fun hb4 => ?_) (fun hb4 => ?_)
        · skip
          refine r_aload_n dX7_cut_39 rfl rfl ?_
          refine r_getR (b := 10) dX7_cut_40 sh0 rfl (ci := 7) (j := 3) rfl (Nat.le_of_ble_eq_true rfl) ixX7 q134 rfl ?_
          refine r_callV (tX0_planCuts G σ  (hci.us.2.2.1) (hci.us.2.2.2.2.1) (hci.us.2.2.2.2.2.2.1) (hci.us.2.2.2.2.2.2.2.1)) dX7_cut_43 svX0_planCuts q483 sh10 (ci := 0) rfl rfl rfl ⟨Nat.le_of_ble_eq_true rfl, Nat.le_of_ble_eq_true rfl⟩ (Nat.le_of_ble_eq_true rfl) ⟨Nat.le_of_ble_eq_true rfl, Nat.le_of_ble_eq_true rfl⟩ ?_
          rintro _ t ⟨rfl, hp⟩
          have e1 : t 1 = σ 1 := hp.1 1 (by decide) (by decide) (by decide)
          have e3 : t 3 = σ 3 := hp.1 3 (by decide) (by decide) (by decide)
          refine r_aload_n dX7_cut_46 rfl rfl ?_
          refine r_getR (b := 10) dX7_cut_47 sh0 rfl (ci := 7) (j := 3) rfl (Nat.le_of_ble_eq_true rfl) ixX7 q134 rfl ?_
          refine r_iload_n dX7_cut_50 rfl rfl ?_
          refine r_iload_n dX7_cut_51 rfl rfl ?_
          refine r_callV (tX0_plannedCut G t p c (((Qs.pl hp).ci hci).us.2.2.1) (((Qs.pl hp).ci hci).us.2.2.2.2.1) (by rw [e1]; omega) (by rw [e1, e3]; exact fun q m a b d => (hp.2.2.2 q m a b d).2)) dX7_cut_52 svX0_plannedCut q515 sh10 (ci := 0) rfl rfl rfl ⟨Nat.le_of_ble_eq_true rfl, Nat.le_of_ble_eq_true rfl⟩ (Nat.le_of_ble_eq_true rfl) ⟨Nat.le_of_ble_eq_true rfl, Nat.le_of_ble_eq_true rfl⟩ ?_
          rintro _ _ ⟨rfl, rfl⟩
          rw [show t 1 2 = σ 1 2 from congrFun (hp.1 1 (by decide) (by decide) (by decide)) 2]
          try rw [e3]
          exact r_xl (r_widen (Nat.le_of_ble_eq_true rfl) (Nat.le_of_ble_eq_true rfl) (r_iret dX7_cut_55 rfl (by rw [hP]; exact by rw [oCut_e, if_pos (by omega), if_neg (by omega)]; exact ⟨rfl, by rw [show ctF (nW (stC σ 1)) p (σ 1 2) (p - c - 1).toNat = ctF (σ 3) p (σ 1 2) (p - c - 1).toNat from (ctF_c (n := σ 1 2) (fun r a b => rs_at ⟨a, b⟩) hwt hn.2 (by omega) (Int.le_refl _) (p - c - 1).toNat (by omega)).1], ((((Qs.refl σ)).tr (Qs.pl hp))).done hci⟩)))
        · skip
          refine r_iconst dX7_cut_37 ?_
          exact r_xl (r_widen (Nat.le_of_ble_eq_true rfl) (Nat.le_of_ble_eq_true rfl) (r_iret dX7_cut_38 rfl (by rw [hP]; exact by rw [oCut_e, if_pos (by omega), if_pos (by omega)]; exact ⟨rfl, rfl, ((Qs.refl σ)).done hci⟩)))
      · skip
        exact r_throwW xg1 xn1 rfl q187 q12 stl270 xf1 xo1 dX7_cut_19 dX7_cut_22 dX7_cut_23 dX7_cut_26 dX7_cut_29 (Nat.le_of_ble_eq_true rfl) (Nat.le_of_ble_eq_true rfl) (Nat.le_of_ble_eq_true rfl) (Nat.le_of_ble_eq_true rfl) (by rw [hX]; exact by rw [oCut_e]; first | (rw [if_neg (by omega)]; exact ⟨Or.inl ⟨rfl, rfl⟩, ((Qs.refl σ)).done hci⟩) | (rw [if_pos (by omega), if_neg (by omega)]; exact ⟨Or.inr ⟨rfl, rfl⟩, ((Qs.refl σ)).done hci⟩) | (rw [if_pos (by omega), if_pos (by omega)]; exact ⟨Or.inr ⟨rfl, rfl⟩, ((Qs.refl σ)).done hci⟩))
  · skip
    refine r_if_eq (tgt := 19) dX7_cut_12 (by decide) (by omega) (fun hb5 => ?_) (fun hb5 => ?_)
    · skip
      exact r_throwW xg1 xn1 rfl q187 q12 stl270 xf1 xo1 dX7_cut_19 dX7_cut_22 dX7_cut_23 dX7_cut_26 dX7_cut_29 (Nat.le_of_ble_eq_true rfl) (Nat.le_of_ble_eq_true rfl) (Nat.le_of_ble_eq_true rfl) (Nat.le_of_ble_eq_true rfl) (by rw [hX]; exact by rw [oCut_e]; first | (rw [if_neg (by omega)]; exact ⟨Or.inl ⟨rfl, rfl⟩, ((Qs.refl σ)).done hci⟩) | (rw [if_pos (by omega), if_neg (by omega)]; exact ⟨Or.inr ⟨rfl, rfl⟩, ((Qs.refl σ)).done hci⟩) | (rw [if_pos (by omega), if_pos (by omega)]; exact ⟨Or.inr ⟨rfl, rfl⟩, ((Qs.refl σ)).done hci⟩))
    · skip
      exact absurd hb5 (by omega)
set_option maxHeartbeats 1000000 in
set_option maxRecDepth 100000 in
theorem tX7_fewestParts (G : GT) (σ : Sg) (m : Int) (hci : CI σ) (hrg : (-2147483648 ≤ m ∧ m ≤ 2147483647)) : CtX G mX7_fewestParts 6 (SH Ω) [Rf G 0, I m] σ (OkP σ (oFewest (absC σ) m)) (ExP σ (oFewest (absC σ) m) xE1 xE3) := by
  obtain ⟨P, hP⟩ : ∃ P : Option Value → Sg → Prop, P = (OkP σ (oFewest (absC σ) m)) := ⟨_, rfl⟩
  obtain ⟨X, hX⟩ : ∃ X : String → Sg → Prop, X = (ExP σ (oFewest (absC σ) m) xE1 xE3) := ⟨_, rfl⟩
  rw [← hP, ← hX]
  refine ctx_of (lv := [(0, Rf G 0), (1, I m)]) (by decide +kernel) (Nat.le_of_ble_eq_true rfl) rfl ?_
  have hci0 := hci.us
  obtain ⟨hR, hC, hn, hT, hwt, hp6, h11, h13, hh, hl, hc⟩ := hci0
  have hT9 : nT (stC σ 1) = σ 2 := hci.T
  have hO9 := OkS_now hci
  refine r_iload_n dX7_fewestParts_0 rfl rfl ?_
  refine r_iconst dX7_fewestParts_1 ?_
  refine r_ldcw (z := 999999) dX7_fewestParts_2 q523 ?_
  refine r_callS (tX7_isFromTo G σ m 1 999999 (by omega)) dX7_fewestParts_5 svX7_isFromTo q186 rfl ⟨Nat.le_of_ble_eq_true rfl, Nat.le_of_ble_eq_true rfl⟩ (Nat.le_of_ble_eq_true rfl) ⟨Nat.le_of_ble_eq_true rfl, Nat.le_of_ble_eq_true rfl⟩ ?_
  rintro _ _ ⟨⟨hq1, rfl⟩ | ⟨hq1, rfl⟩, rfl⟩
  · skip
    refine r_if_ne (tgt := 22) dX7_fewestParts_8 (by decide) (by omega) (fun hb2 => ?_) (fun hb2 => ?_)
    · skip
      refine r_aload_n dX7_fewestParts_22 rfl rfl ?_
      refine r_getR (b := 10) dX7_fewestParts_23 sh0 rfl (ci := 7) (j := 3) rfl (Nat.le_of_ble_eq_true rfl) ixX7 q134 rfl ?_
      refine r_callV (tX0_planCuts G σ  (hci.us.2.2.1) (hci.us.2.2.2.2.1) (hci.us.2.2.2.2.2.2.1) (hci.us.2.2.2.2.2.2.2.1)) dX7_fewestParts_26 svX0_planCuts q483 sh10 (ci := 0) rfl rfl rfl ⟨Nat.le_of_ble_eq_true rfl, Nat.le_of_ble_eq_true rfl⟩ (Nat.le_of_ble_eq_true rfl) ⟨Nat.le_of_ble_eq_true rfl, Nat.le_of_ble_eq_true rfl⟩ ?_
      rintro _ t ⟨rfl, hp⟩
      have e1 : t 1 = σ 1 := hp.1 1 (by decide) (by decide) (by decide)
      have e3 : t 3 = σ 3 := hp.1 3 (by decide) (by decide) (by decide)
      refine r_aload_n dX7_fewestParts_29 rfl rfl ?_
      refine r_getR (b := 10) dX7_fewestParts_30 sh0 rfl (ci := 7) (j := 3) rfl (Nat.le_of_ble_eq_true rfl) ixX7 q134 rfl ?_
      refine r_iload_n dX7_fewestParts_33 rfl rfl ?_
      refine r_callV (tX0_fewestPartsFor G t m (((Qs.pl hp).ci hci).us.2.2.1) (((Qs.pl hp).ci hci).us.2.2.2.2.1) (by omega) (by rw [e1, e3]; exact fun q a b => (hp.2.2.2 q _ a b (Int.le_refl _)).1)) dX7_fewestParts_34 svX0_fewestPartsFor q524 sh10 (ci := 0) rfl rfl rfl ⟨Nat.le_of_ble_eq_true rfl, Nat.le_of_ble_eq_true rfl⟩ (Nat.le_of_ble_eq_true rfl) ⟨Nat.le_of_ble_eq_true rfl, Nat.le_of_ble_eq_true rfl⟩ ?_
      rintro _ _ ⟨rfl, rfl⟩
      rw [show t 1 2 = σ 1 2 from congrFun (hp.1 1 (by decide) (by decide) (by decide)) 2]
      try rw [e3]
      exact r_xl (r_widen (Nat.le_of_ble_eq_true rfl) (Nat.le_of_ble_eq_true rfl) (r_iret dX7_fewestParts_37 rfl (by rw [hP]; exact by rw [oFewest_e, if_pos (by omega)]; exact ⟨rfl, by rw [show fwF (fun q => (dpC (nW (stC σ 1)) q.toNat (σ 1 2)).1) m (σ 1 2).toNat = fwF (fun q => (dpC (σ 3) q.toNat (σ 1 2)).1) m (σ 1 2).toNat from fwF_rs (fun r a b => rs_at ⟨a, b⟩)], ((((Qs.refl σ)).tr (Qs.pl hp))).done hci⟩)))
    · skip
      exact absurd hb2 (by omega)
  · skip
    refine r_if_ne (tgt := 22) dX7_fewestParts_8 (by decide) (by omega) (fun hb3 => ?_) (fun hb3 => ?_)
    · skip
      exact absurd hb3 (by omega)
    · skip
      exact r_throwW xg1 xn1 rfl q187 q12 stl276 xf1 xo1 dX7_fewestParts_11 dX7_fewestParts_14 dX7_fewestParts_15 dX7_fewestParts_18 dX7_fewestParts_21 (Nat.le_of_ble_eq_true rfl) (Nat.le_of_ble_eq_true rfl) (Nat.le_of_ble_eq_true rfl) (Nat.le_of_ble_eq_true rfl) (by rw [hX]; exact by rw [oFewest_e]; first | (rw [if_neg (by omega)]; exact ⟨Or.inl ⟨rfl, rfl⟩, ((Qs.refl σ)).done hci⟩) | (rw [if_pos (by omega), if_neg (by omega)]; exact ⟨Or.inr ⟨rfl, rfl⟩, ((Qs.refl σ)).done hci⟩) | (rw [if_pos (by omega), if_pos (by omega)]; exact ⟨Or.inr ⟨rfl, rfl⟩, ((Qs.refl σ)).done hci⟩))
set_option maxHeartbeats 1000000 in
set_option maxRecDepth 100000 in
theorem tX7_find (G : GT) (σ : Sg) (w : Int) (hci : CI σ) (hrg : (-2147483648 ≤ w ∧ w ≤ 2147483647)) : CtX G mX7_find 16 (SH Ω) [Rf G 0, I w] σ (OkP σ (oFind (absC σ) w)) (ExP σ (oFind (absC σ) w) xE1 xE3) := by
  obtain ⟨P, hP⟩ : ∃ P : Option Value → Sg → Prop, P = (OkP σ (oFind (absC σ) w)) := ⟨_, rfl⟩
  obtain ⟨X, hX⟩ : ∃ X : String → Sg → Prop, X = (ExP σ (oFind (absC σ) w) xE1 xE3) := ⟨_, rfl⟩
  rw [← hP, ← hX]
  refine ctx_of (lv := [(0, Rf G 0), (1, I w)]) (by decide +kernel) (Nat.le_of_ble_eq_true rfl) rfl ?_
  have hci0 := hci.us
  obtain ⟨hR, hC, hn, hT, hwt, hp6, h11, h13, hh, hl, hc⟩ := hci0
  have hT9 : nT (stC σ 1) = σ 2 := hci.T
  have hO9 := OkS_now hci
  refine r_iload_n dX7_find_0 rfl rfl ?_
  refine r_callS (tX7_isWay G σ w (by omega)) dX7_find_1 svX7_isWay q248 rfl ⟨Nat.le_of_ble_eq_true rfl, Nat.le_of_ble_eq_true rfl⟩ (Nat.le_of_ble_eq_true rfl) ⟨Nat.le_of_ble_eq_true rfl, Nat.le_of_ble_eq_true rfl⟩ ?_
  rintro _ _ ⟨⟨hq1, rfl⟩ | ⟨hq1, rfl⟩, rfl⟩
  · skip
    refine r_if_ne (tgt := 17) dX7_find_4 (by decide) (by omega) (fun hb2 => ?_) (fun hb2 => ?_)
    · skip
      refine r_aload_n dX7_find_17 rfl rfl ?_
      refine r_iload_n dX7_find_18 rfl rfl ?_
      refine r_callV (tX7_isOpen G σ w (hci.us.1) (hci.us.2.1) (hci.us.2.2.2.1) (by omega)) dX7_find_19 svX7_isOpen q251 sh0 (ci := 7) rfl rfl rfl ⟨Nat.le_of_ble_eq_true rfl, Nat.le_of_ble_eq_true rfl⟩ (Nat.le_of_ble_eq_true rfl) ⟨Nat.le_of_ble_eq_true rfl, Nat.le_of_ble_eq_true rfl⟩ ?_
      rintro _ _ ⟨⟨hk, rfl⟩ | ⟨hk, rfl⟩, rfl⟩
      · skip
        refine r_if_ne (tgt := 35) dX7_find_22 (by decide) (by omega) (fun hb3 => ?_) (fun hb3 => ?_)
        · skip
          refine r_aload_n dX7_find_35 rfl rfl ?_
          refine r_getR (b := 18) dX7_find_36 sh0 rfl (ci := 7) (j := 5) rfl (Nat.le_of_ble_eq_true rfl) ixX7 q136 rfl ?_
          refine r_aload_n dX7_find_39 rfl rfl ?_
          refine r_getR (b := 1) dX7_find_40 sh0 rfl (ci := 7) (j := 0) rfl (Nat.le_of_ble_eq_true rfl) ixX7 q131 rfl ?_
          refine r_callV (tX2_save G (opn σ w)  ((Qs.op.ci hci).us.2.2.2.2.2.2.2.2.1) ((Qs.op.ci hci).us.2.2.1.2)) dX7_find_43 svX2_save q195 sh18 (ci := 2) rfl rfl rfl ⟨Nat.le_of_ble_eq_true rfl, Nat.le_of_ble_eq_true rfl⟩ (Nat.le_of_ble_eq_true rfl) ⟨Nat.le_of_ble_eq_true rfl, Nat.le_of_ble_eq_true rfl⟩ ?_
          rintro _ s ⟨rfl, hs⟩
          refine r_aload_n dX7_find_46 rfl rfl ?_
          refine r_getR (b := 5) dX7_find_47 sh0 rfl (ci := 7) (j := 2) rfl (Nat.le_of_ble_eq_true rfl) ixX7 q133 rfl ?_
          refine r_iload_n dX7_find_50 rfl rfl ?_
          refine r_callV (tX1_seek G s w (by omega) ((SaveP.ci (Qs.op.ci hci) hs).us.1) ((SaveP.ci (Qs.op.ci hci) hs).us.2.1) ((SaveP.ci (Qs.op.ci hci) hs).us.2.2.2.1) ((SaveP.ci (Qs.op.ci hci) hs).us.2.2.2.2.2.1)) dX7_find_51 svX1_seek q262 sh5 (ci := 1) rfl rfl rfl ⟨Nat.le_of_ble_eq_true rfl, Nat.le_of_ble_eq_true rfl⟩ (Nat.le_of_ble_eq_true rfl) ⟨Nat.le_of_ble_eq_true rfl, Nat.le_of_ble_eq_true rfl⟩ ?_
          rintro _ t ⟨rfl, h2⟩
          refine r_aload_n dX7_find_54 rfl rfl ?_
          refine r_getR (b := 5) dX7_find_55 sh0 rfl (ci := 7) (j := 2) rfl (Nat.le_of_ble_eq_true rfl) ixX7 q133 rfl ?_
          refine r_iload_n dX7_find_58 rfl rfl ?_
          refine r_callV (tX1_looksBy G t w (by omega)) dX7_find_59 svX1_looksBy q312 sh5 (ci := 1) rfl rfl rfl ⟨Nat.le_of_ble_eq_true rfl, Nat.le_of_ble_eq_true rfl⟩ (Nat.le_of_ble_eq_true rfl) ⟨Nat.le_of_ble_eq_true rfl, Nat.le_of_ble_eq_true rfl⟩ ?_
          rintro _ _ ⟨rfl, rfl⟩
          have e9 := h2.2.2.1
          rw [hs.1 1 (by decide) (by decide), hs.1 2 (by decide) (by decide), Qs.op.1 1 (by decide), Qs.op.1 2 (by decide)] at e9
          rw [e9]
          refine r_istore_n (lv' := [(0, Rf G 0), (1, I w), (2, I (LW (σ 2) (σ 1 0) (σ 1 1) w))]) dX7_find_62 rfl (Nat.le_of_ble_eq_true rfl) rfl ?_
          refine r_aload_n dX7_find_63 rfl rfl ?_
          refine r_getR (b := 1) dX7_find_64 sh0 rfl (ci := 7) (j := 0) rfl (Nat.le_of_ble_eq_true rfl) ixX7 q131 rfl ?_
          refine r_dup dX7_find_67 rfl ?_
          refine r_getI (z := 3) dX7_find_68 sh1 rfl (ci := 5) (j := 3) rfl (Nat.le_of_ble_eq_true rfl) rfl ixX5 q45 rfl (hv := (congrFun (h2.1 1 (by decide) (by decide) (by decide) (by decide) (by decide)) 3).trans ((congrFun (hs.1 1 (by decide) (by decide)) 3).trans (congrFun (Qs.op.1 1 (by decide)) 3))) ?_
          refine r_iload_n dX7_find_71 rfl rfl ?_
          refine r_iadd dX7_find_72 ?_
          refine r_putI (z := 3) tyX5 dX7_find_73 sh1 rfl (ci := 5) (j := 3) rfl (Nat.le_of_ble_eq_true rfl) rfl tyX5_ok nmX5 ixX5 q45 rfl rfl rfl ?_
          refine r_aload_n dX7_find_76 rfl rfl ?_
          refine r_getR (b := 1) dX7_find_77 sh0 rfl (ci := 7) (j := 0) rfl (Nat.le_of_ble_eq_true rfl) ixX7 q131 rfl ?_
          refine r_dup dX7_find_80 rfl ?_
          refine r_getI (z := 4) dX7_find_81 sh1 rfl (ci := 5) (j := 4) rfl (Nat.le_of_ble_eq_true rfl) rfl ixX5 q47 rfl (hv := (up_nj (by decide)).trans ((congrFun (h2.1 1 (by decide) (by decide) (by decide) (by decide) (by decide)) 4).trans ((congrFun (hs.1 1 (by decide) (by decide)) 4).trans (congrFun (Qs.op.1 1 (by decide)) 4)))) ?_
          refine r_iconst dX7_find_84 ?_
          refine r_iadd dX7_find_85 ?_
          refine r_putI (z := 4) tyX5 dX7_find_86 sh1 rfl (ci := 5) (j := 4) rfl (Nat.le_of_ble_eq_true rfl) rfl tyX5_ok nmX5 ixX5 q47 rfl rfl rfl ?_
          refine r_iload_n dX7_find_89 rfl rfl ?_
          exact r_xl (r_widen (Nat.le_of_ble_eq_true rfl) (Nat.le_of_ble_eq_true rfl) (r_iret dX7_find_90 rfl (by rw [hP]; exact by rw [oFind_e, hT9, if_pos (by omega), if_pos hk]; exact ⟨rfl, rfl, aft_k hci (Qs.op (w := w)) hs (Nc.u (Nc.u (Nc.q (Nc.refl s) (Qs.sk h2)) (by decide)) (by decide)) ((σ 1 0, σ 1 1, σ 1 2, σ 1 3 + LW (σ 2) (σ 1 0) (σ 1 1) w, σ 1 4 + 1, (stC σ 1).2.2.2.2.2)) ((up_nj (by decide)).trans ((up_nj (by decide)).trans ((congrFun (h2.1 1 (by decide) (by decide) (by decide) (by decide) (by decide)) 0).trans ((congrFun (hs.1 1 (by decide) (by decide)) 0).trans (congrFun (Qs.op.1 1 (by decide)) 0))))) ((up_nj (by decide)).trans ((up_nj (by decide)).trans ((congrFun (h2.1 1 (by decide) (by decide) (by decide) (by decide) (by decide)) 1).trans ((congrFun (hs.1 1 (by decide) (by decide)) 1).trans (congrFun (Qs.op.1 1 (by decide)) 1))))) ((up_nj (by decide)).trans ((up_nj (by decide)).trans ((congrFun (h2.1 1 (by decide) (by decide) (by decide) (by decide) (by decide)) 2).trans ((congrFun (hs.1 1 (by decide) (by decide)) 2).trans (congrFun (Qs.op.1 1 (by decide)) 2))))) ((up_nj (by decide)).trans (up_eq)) up_eq ((up_nj (by decide)).trans ((up_nj (by decide)).trans ((congrFun (h2.1 1 (by decide) (by decide) (by decide) (by decide) (by decide)) 5).trans ((congrFun (hs.1 1 (by decide) (by decide)) 5).trans (congrFun (Qs.op.1 1 (by decide)) 5))))) ((((up_ne (by decide)).trans ((up_ne (by decide)).trans ((h2.1 2 (by decide) (by decide) (by decide) (by decide) (by decide)).trans ((hs.1 2 (by decide) (by decide)).trans (Qs.op.1 2 (by decide))))))).trans hci.T.symm) (by rw [((up_ne (by decide)).trans ((up_ne (by decide)).trans ((h2.1 3 (by decide) (by decide) (by decide) (by decide) (by decide)).trans ((hs.1 3 (by decide) (by decide)).trans (Qs.op.1 3 (by decide))))))]; rfl) hO9⟩)))
        · skip
          exact absurd hb3 (by omega)
      · skip
        refine r_if_ne (tgt := 35) dX7_find_22 (by decide) (by omega) (fun hb4 => ?_) (fun hb4 => ?_)
        · skip
          exact absurd hb4 (by omega)
        · skip
          exact r_throw xg3 xn3 rfl q254 q15 stl147 xf3 xo3 dX7_find_25 dX7_find_28 dX7_find_29 dX7_find_31 dX7_find_34 (Nat.le_of_ble_eq_true rfl) (Nat.le_of_ble_eq_true rfl) (Nat.le_of_ble_eq_true rfl) (Nat.le_of_ble_eq_true rfl) (by rw [hX]; exact by rw [oFind_e, hT9, if_pos (by omega), if_neg hk]; exact ⟨Or.inr ⟨rfl, rfl⟩, ((((Qs.refl σ)).tr Qs.op)).done hci⟩)
    · skip
      exact absurd hb2 (by omega)
  · skip
    refine r_if_ne (tgt := 17) dX7_find_4 (by decide) (by omega) (fun hb5 => ?_) (fun hb5 => ?_)
    · skip
      exact absurd hb5 (by omega)
    · skip
      exact r_throw xg1 xn1 rfl q187 q12 stl140 xf1 xo1 dX7_find_7 dX7_find_10 dX7_find_11 dX7_find_13 dX7_find_16 (Nat.le_of_ble_eq_true rfl) (Nat.le_of_ble_eq_true rfl) (Nat.le_of_ble_eq_true rfl) (Nat.le_of_ble_eq_true rfl) (by rw [hX]; exact by rw [oFind_e]; first | (rw [if_neg (by omega)]; exact ⟨Or.inl ⟨rfl, rfl⟩, ((Qs.refl σ)).done hci⟩) | (rw [if_pos (by omega), if_neg (by omega)]; exact ⟨Or.inr ⟨rfl, rfl⟩, ((Qs.refl σ)).done hci⟩) | (rw [if_pos (by omega), if_pos (by omega)]; exact ⟨Or.inr ⟨rfl, rfl⟩, ((Qs.refl σ)).done hci⟩))
set_option maxHeartbeats 1000000 in
set_option maxRecDepth 100000 in
theorem tX7_weigh (G : GT) (σ : Sg) (v : Int) (hci : CI σ) (hrg : (-2147483648 ≤ v ∧ v ≤ 2147483647)) : CtX G mX7_weigh 6 (SH Ω) [Rf G 0, I v] σ (OkP σ (oWeigh (absC σ) v)) (ExP σ (oWeigh (absC σ) v) xE1 xE3) := by
  obtain ⟨P, hP⟩ : ∃ P : Option Value → Sg → Prop, P = (OkP σ (oWeigh (absC σ) v)) := ⟨_, rfl⟩
  obtain ⟨X, hX⟩ : ∃ X : String → Sg → Prop, X = (ExP σ (oWeigh (absC σ) v) xE1 xE3) := ⟨_, rfl⟩
  rw [← hP, ← hX]
  refine ctx_of (lv := [(0, Rf G 0), (1, I v)]) (by decide +kernel) (Nat.le_of_ble_eq_true rfl) rfl ?_
  have hci0 := hci.us
  obtain ⟨hR, hC, hn, hT, hwt, hp6, h11, h13, hh, hl, hc⟩ := hci0
  have hT9 : nT (stC σ 1) = σ 2 := hci.T
  have hO9 := OkS_now hci
  refine r_iload_n dX7_weigh_0 rfl rfl ?_
  refine r_iconst dX7_weigh_1 ?_
  refine r_bipush dX7_weigh_2 rfl ?_
  refine r_callS (tX7_isFromTo G σ v 1 99 (by omega)) dX7_weigh_4 svX7_isFromTo q186 rfl ⟨Nat.le_of_ble_eq_true rfl, Nat.le_of_ble_eq_true rfl⟩ (Nat.le_of_ble_eq_true rfl) ⟨Nat.le_of_ble_eq_true rfl, Nat.le_of_ble_eq_true rfl⟩ ?_
  rintro _ _ ⟨⟨hq1, rfl⟩ | ⟨hq1, rfl⟩, rfl⟩
  · skip
    refine r_if_ne (tgt := 20) dX7_weigh_7 (by decide) (by omega) (fun hb2 => ?_) (fun hb2 => ?_)
    · skip
      refine r_aload_n dX7_weigh_20 rfl rfl ?_
      refine r_getR (b := 1) dX7_weigh_21 sh0 rfl (ci := 7) (j := 0) rfl (Nat.le_of_ble_eq_true rfl) ixX7 q131 rfl ?_
      refine r_getI (z := 2) dX7_weigh_24 sh1 rfl (ci := 5) (j := 2) rfl (Nat.le_of_ble_eq_true rfl) rfl ixX5 q43 rfl (hv := rfl) ?_
      refine r_bipush dX7_weigh_27 rfl ?_
      refine r_icmp_lt (tgt := 42) dX7_weigh_29 (by decide) (by omega) (fun hb3 => ?_) (fun hb3 => ?_)
      · skip
        refine r_aload_n dX7_weigh_42 rfl rfl ?_
        refine r_getR (b := 18) dX7_weigh_43 sh0 rfl (ci := 7) (j := 5) rfl (Nat.le_of_ble_eq_true rfl) ixX7 q136 rfl ?_
        refine r_aload_n dX7_weigh_46 rfl rfl ?_
        refine r_getR (b := 1) dX7_weigh_47 sh0 rfl (ci := 7) (j := 0) rfl (Nat.le_of_ble_eq_true rfl) ixX7 q131 rfl ?_
        refine r_callV (tX2_save G σ  (hci.us.2.2.2.2.2.2.2.2.1) (hci.us.2.2.1.2)) dX7_weigh_50 svX2_save q195 sh18 (ci := 2) rfl rfl rfl ⟨Nat.le_of_ble_eq_true rfl, Nat.le_of_ble_eq_true rfl⟩ (Nat.le_of_ble_eq_true rfl) ⟨Nat.le_of_ble_eq_true rfl, Nat.le_of_ble_eq_true rfl⟩ ?_
        rintro _ s ⟨rfl, hs⟩
        refine r_aload_n dX7_weigh_53 rfl rfl ?_
        refine r_getR (b := 1) dX7_weigh_54 sh0 rfl (ci := 7) (j := 0) rfl (Nat.le_of_ble_eq_true rfl) ixX7 q131 rfl ?_
        refine r_iload_n dX7_weigh_57 rfl rfl ?_
        refine r_callV (tX5_addWeight G s v (by rw [hs.1 1 (by decide) (by decide)]; omega)) dX7_weigh_58 svX5_addWeight q320 sh1 (ci := 5) rfl rfl rfl ⟨Nat.le_of_ble_eq_true rfl, Nat.le_of_ble_eq_true rfl⟩ (Nat.le_of_ble_eq_true rfl) ⟨Nat.le_of_ble_eq_true rfl, Nat.le_of_ble_eq_true rfl⟩ ?_
        rintro _ _ ⟨rfl, rfl⟩
        rw [show s 1 2 = σ 1 2 from congrFun (hs.1 1 (by decide) (by decide)) 2]
        refine r_aload_n dX7_weigh_61 rfl rfl ?_
        refine r_getR (b := 1) dX7_weigh_62 sh0 rfl (ci := 7) (j := 0) rfl (Nat.le_of_ble_eq_true rfl) ixX7 q131 rfl ?_
        refine r_getI (z := 2) dX7_weigh_65 sh1 rfl (ci := 5) (j := 2) rfl (Nat.le_of_ble_eq_true rfl) rfl ixX5 q43 rfl (hv := up_eq) ?_
        exact r_xl (r_widen (Nat.le_of_ble_eq_true rfl) (Nat.le_of_ble_eq_true rfl) (r_iret dX7_weigh_68 rfl (by rw [hP]; exact by rw [oWeigh_e, if_pos (by omega), if_neg (by omega)]; exact ⟨rfl, rfl, aft_k hci (Qs.refl σ) hs (Nc.u (Nc.u (Nc.refl s) (by decide)) (by decide)) ((σ 1 0, σ 1 1, σ 1 2 + 1, σ 1 3, σ 1 4, σ 1 5, nT (stC σ 1), fu (nW (stC σ 1)) (σ 1 2) v)) ((up_nj (by decide)).trans ((congrFun (up_ne (by decide)) 0).trans (congrFun (hs.1 1 (by decide) (by decide)) 0))) ((up_nj (by decide)).trans ((congrFun (up_ne (by decide)) 1).trans (congrFun (hs.1 1 (by decide) (by decide)) 1))) up_eq ((up_nj (by decide)).trans ((congrFun (up_ne (by decide)) 3).trans (congrFun (hs.1 1 (by decide) (by decide)) 3))) ((up_nj (by decide)).trans ((congrFun (up_ne (by decide)) 4).trans (congrFun (hs.1 1 (by decide) (by decide)) 4))) ((up_nj (by decide)).trans ((congrFun (up_ne (by decide)) 5).trans (congrFun (hs.1 1 (by decide) (by decide)) 5))) ((((up_ne (by decide)).trans ((up_ne (by decide)).trans (hs.1 2 (by decide) (by decide))))).trans hci.T.symm) (by rw [up_ne (by decide), fu_up, hs.1 3 (by decide) (by decide)]; exact rs_add (by omega)) (OkS_add hO9 (by show σ 1 2 < 10; omega) (by omega))⟩)))
      · skip
        exact r_throw xg3 xn3 rfl q254 q15 stl169 xf3 xo3 dX7_weigh_32 dX7_weigh_35 dX7_weigh_36 dX7_weigh_38 dX7_weigh_41 (Nat.le_of_ble_eq_true rfl) (Nat.le_of_ble_eq_true rfl) (Nat.le_of_ble_eq_true rfl) (Nat.le_of_ble_eq_true rfl) (by rw [hX]; exact by rw [oWeigh_e]; first | (rw [if_neg (by omega)]; exact ⟨Or.inl ⟨rfl, rfl⟩, ((Qs.refl σ)).done hci⟩) | (rw [if_pos (by omega), if_neg (by omega)]; exact ⟨Or.inr ⟨rfl, rfl⟩, ((Qs.refl σ)).done hci⟩) | (rw [if_pos (by omega), if_pos (by omega)]; exact ⟨Or.inr ⟨rfl, rfl⟩, ((Qs.refl σ)).done hci⟩))
    · skip
      exact absurd hb2 (by omega)
  · skip
    refine r_if_ne (tgt := 20) dX7_weigh_7 (by decide) (by omega) (fun hb4 => ?_) (fun hb4 => ?_)
    · skip
      exact absurd hb4 (by omega)
    · skip
      exact r_throw xg1 xn1 rfl q187 q12 stl164 xf1 xo1 dX7_weigh_10 dX7_weigh_13 dX7_weigh_14 dX7_weigh_16 dX7_weigh_19 (Nat.le_of_ble_eq_true rfl) (Nat.le_of_ble_eq_true rfl) (Nat.le_of_ble_eq_true rfl) (Nat.le_of_ble_eq_true rfl) (by rw [hX]; exact by rw [oWeigh_e]; first | (rw [if_neg (by omega)]; exact ⟨Or.inl ⟨rfl, rfl⟩, ((Qs.refl σ)).done hci⟩) | (rw [if_pos (by omega), if_neg (by omega)]; exact ⟨Or.inr ⟨rfl, rfl⟩, ((Qs.refl σ)).done hci⟩) | (rw [if_pos (by omega), if_pos (by omega)]; exact ⟨Or.inr ⟨rfl, rfl⟩, ((Qs.refl σ)).done hci⟩))
set_option maxHeartbeats 1000000 in
set_option maxRecDepth 100000 in
theorem tX7_unweigh (G : GT) (σ : Sg)  (hci : CI σ) : CtX G mX7_unweigh 6 (SH Ω) [Rf G 0] σ (OkP σ (oUnweigh (absC σ))) (ExP σ (oUnweigh (absC σ)) xE3 xE3) := by
  obtain ⟨P, hP⟩ : ∃ P : Option Value → Sg → Prop, P = (OkP σ (oUnweigh (absC σ))) := ⟨_, rfl⟩
  obtain ⟨X, hX⟩ : ∃ X : String → Sg → Prop, X = (ExP σ (oUnweigh (absC σ)) xE3 xE3) := ⟨_, rfl⟩
  rw [← hP, ← hX]
  refine ctx_of (lv := [(0, Rf G 0)]) (by decide +kernel) (Nat.le_of_ble_eq_true rfl) rfl ?_
  have hci0 := hci.us
  obtain ⟨hR, hC, hn, hT, hwt, hp6, h11, h13, hh, hl, hc⟩ := hci0
  have hT9 : nT (stC σ 1) = σ 2 := hci.T
  have hO9 := OkS_now hci
  refine r_aload_n dX7_unweigh_0 rfl rfl ?_
  refine r_getR (b := 1) dX7_unweigh_1 sh0 rfl (ci := 7) (j := 0) rfl (Nat.le_of_ble_eq_true rfl) ixX7 q131 rfl ?_
  refine r_getI (z := 2) dX7_unweigh_4 sh1 rfl (ci := 5) (j := 2) rfl (Nat.le_of_ble_eq_true rfl) rfl ixX5 q43 rfl (hv := rfl) ?_
  refine r_iconst dX7_unweigh_7 ?_
  refine r_icmp_gt (tgt := 21) dX7_unweigh_8 (by decide) (by omega) (fun hb1 => ?_) (fun hb1 => ?_)
  · skip
    refine r_aload_n dX7_unweigh_21 rfl rfl ?_
    refine r_getR (b := 18) dX7_unweigh_22 sh0 rfl (ci := 7) (j := 5) rfl (Nat.le_of_ble_eq_true rfl) ixX7 q136 rfl ?_
    refine r_aload_n dX7_unweigh_25 rfl rfl ?_
    refine r_getR (b := 1) dX7_unweigh_26 sh0 rfl (ci := 7) (j := 0) rfl (Nat.le_of_ble_eq_true rfl) ixX7 q131 rfl ?_
    refine r_callV (tX2_save G σ  (hci.us.2.2.2.2.2.2.2.2.1) (hci.us.2.2.1.2)) dX7_unweigh_29 svX2_save q195 sh18 (ci := 2) rfl rfl rfl ⟨Nat.le_of_ble_eq_true rfl, Nat.le_of_ble_eq_true rfl⟩ (Nat.le_of_ble_eq_true rfl) ⟨Nat.le_of_ble_eq_true rfl, Nat.le_of_ble_eq_true rfl⟩ ?_
    rintro _ s ⟨rfl, hs⟩
    refine r_aload_n dX7_unweigh_32 rfl rfl ?_
    refine r_getR (b := 1) dX7_unweigh_33 sh0 rfl (ci := 7) (j := 0) rfl (Nat.le_of_ble_eq_true rfl) ixX7 q131 rfl ?_
    refine r_dup dX7_unweigh_36 rfl ?_
    refine r_getI (z := 2) dX7_unweigh_37 sh1 rfl (ci := 5) (j := 2) rfl (Nat.le_of_ble_eq_true rfl) rfl ixX5 q43 rfl (hv := congrFun (hs.1 1 (by decide) (by decide)) 2) ?_
    refine r_iconst dX7_unweigh_40 ?_
    refine r_isub dX7_unweigh_41 ?_
    refine r_putI (z := 2) tyX5 dX7_unweigh_42 sh1 rfl (ci := 5) (j := 2) rfl (Nat.le_of_ble_eq_true rfl) rfl tyX5_ok nmX5 ixX5 q43 rfl rfl rfl ?_
    refine r_aload_n dX7_unweigh_45 rfl rfl ?_
    refine r_getR (b := 1) dX7_unweigh_46 sh0 rfl (ci := 7) (j := 0) rfl (Nat.le_of_ble_eq_true rfl) ixX7 q131 rfl ?_
    refine r_aload_n dX7_unweigh_49 rfl rfl ?_
    refine r_getR (b := 1) dX7_unweigh_50 sh0 rfl (ci := 7) (j := 0) rfl (Nat.le_of_ble_eq_true rfl) ixX7 q131 rfl ?_
    refine r_getI (z := 2) dX7_unweigh_53 sh1 rfl (ci := 5) (j := 2) rfl (Nat.le_of_ble_eq_true rfl) rfl ixX5 q43 rfl (hv := up_eq) ?_
    refine r_callV (tX5_weightAt G (up s 1 2 ((σ 1 2) - 1)) ((σ 1 2) - 1) (by omega)) dX7_unweigh_56 svX5_weightAt q395 sh1 (ci := 5) rfl rfl rfl ⟨Nat.le_of_ble_eq_true rfl, Nat.le_of_ble_eq_true rfl⟩ (Nat.le_of_ble_eq_true rfl) ⟨Nat.le_of_ble_eq_true rfl, Nat.le_of_ble_eq_true rfl⟩ ?_
    rintro _ _ ⟨rfl, rfl⟩
    rw [show (up s 1 2 ((σ 1 2) - 1)) 3 ((σ 1 2) - 1) = σ 3 ((σ 1 2) - 1) from (congrFun (up_ne (by decide)) ((σ 1 2) - 1)).trans (congrFun (hs.1 3 (by decide) (by decide)) ((σ 1 2) - 1))]
    exact r_xl (r_widen (Nat.le_of_ble_eq_true rfl) (Nat.le_of_ble_eq_true rfl) (r_iret dX7_unweigh_59 rfl (by rw [hP]; exact by rw [oUnweigh_e, if_neg (by omega)]; exact ⟨rfl, by show some (I (rs (σ 1 2) (σ 3) (σ 1 2 - 1))) = _; rw [rs_at (by omega)], aft_k hci (Qs.refl σ) hs (Nc.u (Nc.refl s) (by decide)) ((σ 1 0, σ 1 1, σ 1 2 - 1, σ 1 3, σ 1 4, σ 1 5, nT (stC σ 1), fu (nW (stC σ 1)) (σ 1 2 - 1) 0)) ((up_nj (by decide)).trans (congrFun (hs.1 1 (by decide) (by decide)) 0)) ((up_nj (by decide)).trans (congrFun (hs.1 1 (by decide) (by decide)) 1)) up_eq ((up_nj (by decide)).trans (congrFun (hs.1 1 (by decide) (by decide)) 3)) ((up_nj (by decide)).trans (congrFun (hs.1 1 (by decide) (by decide)) 4)) ((up_nj (by decide)).trans (congrFun (hs.1 1 (by decide) (by decide)) 5)) ((((up_ne (by decide)).trans (hs.1 2 (by decide) (by decide)))).trans hci.T.symm) (by rw [((up_ne (by decide)).trans (hs.1 3 (by decide) (by decide)))]; exact rs_sub) (OkS_sub hO9 (by show 1 < σ 1 2; omega))⟩)))
  · skip
    exact r_throw xg3 xn3 rfl q254 q15 stl174 xf3 xo3 dX7_unweigh_11 dX7_unweigh_14 dX7_unweigh_15 dX7_unweigh_17 dX7_unweigh_20 (Nat.le_of_ble_eq_true rfl) (Nat.le_of_ble_eq_true rfl) (Nat.le_of_ble_eq_true rfl) (Nat.le_of_ble_eq_true rfl) (by rw [hX]; exact by rw [oUnweigh_e, if_pos (by omega)]; exact ⟨Or.inl ⟨rfl, rfl⟩, ((Qs.refl σ)).done hci⟩)
set_option maxHeartbeats 1000000 in
set_option maxRecDepth 100000 in
theorem tX7_append (G : GT) (σ : Sg) (c : Int) (hci : CI σ) (hrg : (-2147483648 ≤ c ∧ c ≤ 2147483647)) : CtX G mX7_append 6 (SH Ω) [Rf G 0, I c] σ (OkP σ (oAppend (absC σ) c)) (ExP σ (oAppend (absC σ) c) xE1 xE3) := by
  obtain ⟨P, hP⟩ : ∃ P : Option Value → Sg → Prop, P = (OkP σ (oAppend (absC σ) c)) := ⟨_, rfl⟩
  obtain ⟨X, hX⟩ : ∃ X : String → Sg → Prop, X = (ExP σ (oAppend (absC σ) c) xE1 xE3) := ⟨_, rfl⟩
  rw [← hP, ← hX]
  refine ctx_of (lv := [(0, Rf G 0), (1, I c)]) (by decide +kernel) (Nat.le_of_ble_eq_true rfl) rfl ?_
  have hci0 := hci.us
  obtain ⟨hR, hC, hn, hT, hwt, hp6, h11, h13, hh, hl, hc⟩ := hci0
  have hT9 : nT (stC σ 1) = σ 2 := hci.T
  have hO9 := OkS_now hci
  have hbl := bl hci
  refine r_iload_n dX7_append_0 rfl rfl ?_
  refine r_bipush dX7_append_1 rfl ?_
  refine r_bipush dX7_append_3 rfl ?_
  refine r_callS (tX7_isFromTo G σ c 33 126 (by omega)) dX7_append_5 svX7_isFromTo q186 rfl ⟨Nat.le_of_ble_eq_true rfl, Nat.le_of_ble_eq_true rfl⟩ (Nat.le_of_ble_eq_true rfl) ⟨Nat.le_of_ble_eq_true rfl, Nat.le_of_ble_eq_true rfl⟩ ?_
  rintro _ _ ⟨⟨hq1, rfl⟩ | ⟨hq1, rfl⟩, rfl⟩
  · skip
    refine r_if_ne (tgt := 21) dX7_append_8 (by decide) (by omega) (fun hb2 => ?_) (fun hb2 => ?_)
    · skip
      refine r_aload_n dX7_append_21 rfl rfl ?_
      refine r_getR (b := 15) dX7_append_22 sh0 rfl (ci := 7) (j := 4) rfl (Nat.le_of_ble_eq_true rfl) ixX7 q135 rfl ?_
      refine r_getI (z := 0) dX7_append_25 sh15 rfl (ci := 6) (j := 0) rfl (Nat.le_of_ble_eq_true rfl) rfl ixX6 q99 rfl (hv := rfl) ?_
      refine r_bipush dX7_append_28 rfl ?_
      refine r_icmp_lt (tgt := 43) dX7_append_30 (by decide) (by omega) (fun hb3 => ?_) (fun hb3 => ?_)
      · skip
        refine r_aload_n dX7_append_43 rfl rfl ?_
        refine r_getR (b := 15) dX7_append_44 sh0 rfl (ci := 7) (j := 4) rfl (Nat.le_of_ble_eq_true rfl) ixX7 q135 rfl ?_
        refine r_iload_n dX7_append_47 rfl rfl ?_
        refine r_callV (tX6_add G σ c (by omega)) dX7_append_48 svX6_add q400 sh15 (ci := 6) rfl rfl rfl ⟨Nat.le_of_ble_eq_true rfl, Nat.le_of_ble_eq_true rfl⟩ (Nat.le_of_ble_eq_true rfl) ⟨Nat.le_of_ble_eq_true rfl, Nat.le_of_ble_eq_true rfl⟩ ?_
        rintro _ _ ⟨rfl, rfl⟩
        refine r_aload_n dX7_append_51 rfl rfl ?_
        refine r_getR (b := 15) dX7_append_52 sh0 rfl (ci := 7) (j := 4) rfl (Nat.le_of_ble_eq_true rfl) ixX7 q135 rfl ?_
        refine r_getI (z := 0) dX7_append_55 sh15 rfl (ci := 6) (j := 0) rfl (Nat.le_of_ble_eq_true rfl) rfl ixX6 q99 rfl (hv := up_eq) ?_
        exact r_xl (r_widen (Nat.le_of_ble_eq_true rfl) (Nat.le_of_ble_eq_true rfl) (r_iret dX7_append_58 rfl (by rw [hP]; exact by rw [oAppend_e, if_pos (by omega), if_neg (by omega)]; exact ⟨rfl, by rw [hbl], buf_done hci (fun a h5 h6 => by rw [up_ne h5, up_ne h6]) (by rw [up_eq]; omega) (by rw [up_ne (by decide), fu_up, up_eq]; exact bfC_add hl.1) (fun d hd => by rcases List.mem_append.mp hd with h | h; exact hci.2.2.2.2.2.2.2.2.2.2.2 d h; rw [List.mem_singleton.mp h]; omega)⟩)))
      · skip
        exact r_throw xg3 xn3 rfl q254 q15 stl184 xf3 xo3 dX7_append_33 dX7_append_36 dX7_append_37 dX7_append_39 dX7_append_42 (Nat.le_of_ble_eq_true rfl) (Nat.le_of_ble_eq_true rfl) (Nat.le_of_ble_eq_true rfl) (Nat.le_of_ble_eq_true rfl) (by rw [hX]; exact by rw [oAppend_e]; first | (rw [if_neg (by omega)]; exact ⟨Or.inl ⟨rfl, rfl⟩, ((Qs.refl σ)).done hci⟩) | (rw [if_pos (by omega), if_neg (by omega)]; exact ⟨Or.inr ⟨rfl, rfl⟩, ((Qs.refl σ)).done hci⟩) | (rw [if_pos (by omega), if_pos (by omega)]; exact ⟨Or.inr ⟨rfl, rfl⟩, ((Qs.refl σ)).done hci⟩))
    · skip
      exact absurd hb2 (by omega)
  · skip
    refine r_if_ne (tgt := 21) dX7_append_8 (by decide) (by omega) (fun hb4 => ?_) (fun hb4 => ?_)
    · skip
      exact absurd hb4 (by omega)
    · skip
      exact r_throw xg1 xn1 rfl q187 q12 stl179 xf1 xo1 dX7_append_11 dX7_append_14 dX7_append_15 dX7_append_17 dX7_append_20 (Nat.le_of_ble_eq_true rfl) (Nat.le_of_ble_eq_true rfl) (Nat.le_of_ble_eq_true rfl) (Nat.le_of_ble_eq_true rfl) (by rw [hX]; exact by rw [oAppend_e]; first | (rw [if_neg (by omega)]; exact ⟨Or.inl ⟨rfl, rfl⟩, ((Qs.refl σ)).done hci⟩) | (rw [if_pos (by omega), if_neg (by omega)]; exact ⟨Or.inr ⟨rfl, rfl⟩, ((Qs.refl σ)).done hci⟩) | (rw [if_pos (by omega), if_pos (by omega)]; exact ⟨Or.inr ⟨rfl, rfl⟩, ((Qs.refl σ)).done hci⟩))
