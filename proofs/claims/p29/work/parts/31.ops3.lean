variable {Ω : List Ob}

theorem cpS_0 {σ : Sg} {a b : Nat} {j : Int} (hj : 0 ≤ j ∧ j < 6) : cpS σ b a a j = σ b j := by
  unfold cpS
  rw [cp_ne (by omega), cp_ne (by omega), cp_eq, if_pos hj]

theorem keep_done0 {σ : Sg} (hc : CI σ) : Done σ (up (cpS σ 1 39) 38 0 1) ((absC σ).1, (absC σ).2.1, some (absC σ).1, (absC σ).2.2.2) := by
  have hn := hc.us.2.2.1
  have hm : slC (up (cpS σ 1 39) 38 0 1) 38 39 = some (stC σ 1) := by
    unfold slC
    rw [show up (cpS σ 1 39) 38 0 1 38 0 = 1 from up_eq, if_pos rfl, stC_c (σ := up (cpS σ 1 39) 38 0 1) (τ := cpS σ 1 39) (a := 39) (by rw [up_ne (by decide)]) (by rw [up_ne (by decide)]) (by rw [up_ne (by decide)]), stC_cpS (by omega) hn.2]
  have hf : ∀ b, b ≠ 38 → (b < 39 ∨ 39 + 3 ≤ b) → up (cpS σ 1 39) 38 0 1 b = σ b := fun b h1 h2 => by rw [up_ne h1, cpS_ne h2]
  have hx : absC (up (cpS σ 1 39) 38 0 1) = ((absC σ).1, (absC σ).2.1, some (absC σ).1, (absC σ).2.2.2) := by
    unfold absC
    rw [hm, stC_c (hf 1 (by decide) (by omega)) (hf 2 (by decide) (by omega)) (hf 3 (by decide) (by omega)), hiC_c (fun b h1 h2 => hf b (by omega) (by omega)), slC_c (hf 42 (by decide) (by omega)) (hf 43 (by decide) (by omega)) (hf 44 (by decide) (by omega)) (hf 45 (by decide) (by omega)), hf 16 (by decide) (by omega), hf 15 (by decide) (by omega)]
  obtain ⟨a1, a2, a3, a4, a5, a6, a7, a8, a9, a10, a11, a12⟩ := hc
  refine ⟨⟨?_, ?_, ?_, ?_, ?_, ?_⟩, hx, fun b hb => hf b (by omega) (by omega)⟩
  · unfold ScC; rw [hf 6 (by decide) (by omega), hf 11 (by decide) (by omega), hf 13 (by decide) (by omega)]; exact a1
  · unfold HistOK; rw [hf 18 (by decide) (by omega)]; exact a2
  · rw [hf 15 (by decide) (by omega)]; exact a3
  · rw [hf 42 (by decide) (by omega), up_eq]; exact ⟨Or.inr rfl, a4.2⟩
  · rw [hf 2 (by decide) (by omega)]; exact a5
  · rw [hx]
    exact ⟨a6, a7, fun x h => by cases h; exact a6, a9, a10, a11, a12⟩
theorem back_done0 {σ s : Sg} (hc : CI σ) (hs : SaveP σ s) (hf1 : σ 38 0 = 1) : slC σ 38 39 = some (stC σ 39) ∧ Done σ (cpS s 39 1) (svA (absC σ) (stC σ 39)) := by
  have hm : slC σ 38 39 = some (stC σ 39) := by unfold slC; rw [if_pos hf1]
  have hO : OkS (stC σ 39) := hc.2.2.2.2.2.2.2.1 _ hm
  have hs39 : stC s 39 = stC σ 39 := stC_c (hs.1 39 (by decide) (by omega)) (hs.1 40 (by decide) (by omega)) (hs.1 41 (by decide) (by omega))
  refine ⟨hm, aft_n hc hs (fun b h => cpS_ne (by omega)) (by rw [cpS_ne (by omega)]) (fun h => by unfold ScC; rw [cpS_ne (by omega), cpS_ne (by omega), cpS_ne (by omega)]; exact h) (fun j hj => ?_) ?_ hO⟩
  · have h2 : cpS s 39 1 2 j = s 2 j := by
      unfold cpS
      rw [cp_ne (by decide), cp_eq, if_neg (by omega), cp_ne (by decide)]
    rw [h2, hs.1 2 (by decide) (by omega)]
    exact hc.2.2.2.2.1 j hj
  · rw [stC_cpS (by omega) (by rw [hs.1 39 (by decide) (by omega)]; exact hO.2.2.1.2), hs39]

theorem keep_done1 {σ : Sg} (hc : CI σ) : Done σ (up (cpS σ 1 43) 42 0 1) ((absC σ).1, (absC σ).2.1, (absC σ).2.2.1, some (absC σ).1, (absC σ).2.2.2.2) := by
  have hn := hc.us.2.2.1
  have hm : slC (up (cpS σ 1 43) 42 0 1) 42 43 = some (stC σ 1) := by
    unfold slC
    rw [show up (cpS σ 1 43) 42 0 1 42 0 = 1 from up_eq, if_pos rfl, stC_c (σ := up (cpS σ 1 43) 42 0 1) (τ := cpS σ 1 43) (a := 43) (by rw [up_ne (by decide)]) (by rw [up_ne (by decide)]) (by rw [up_ne (by decide)]), stC_cpS (by omega) hn.2]
  have hf : ∀ b, b ≠ 42 → (b < 43 ∨ 43 + 3 ≤ b) → up (cpS σ 1 43) 42 0 1 b = σ b := fun b h1 h2 => by rw [up_ne h1, cpS_ne h2]
  have hx : absC (up (cpS σ 1 43) 42 0 1) = ((absC σ).1, (absC σ).2.1, (absC σ).2.2.1, some (absC σ).1, (absC σ).2.2.2.2) := by
    unfold absC
    rw [hm, stC_c (hf 1 (by decide) (by omega)) (hf 2 (by decide) (by omega)) (hf 3 (by decide) (by omega)), hiC_c (fun b h1 h2 => hf b (by omega) (by omega)), slC_c (hf 38 (by decide) (by omega)) (hf 39 (by decide) (by omega)) (hf 40 (by decide) (by omega)) (hf 41 (by decide) (by omega)), hf 16 (by decide) (by omega), hf 15 (by decide) (by omega)]
  obtain ⟨a1, a2, a3, a4, a5, a6, a7, a8, a9, a10, a11, a12⟩ := hc
  refine ⟨⟨?_, ?_, ?_, ?_, ?_, ?_⟩, hx, fun b hb => hf b (by omega) (by omega)⟩
  · unfold ScC; rw [hf 6 (by decide) (by omega), hf 11 (by decide) (by omega), hf 13 (by decide) (by omega)]; exact a1
  · unfold HistOK; rw [hf 18 (by decide) (by omega)]; exact a2
  · rw [hf 15 (by decide) (by omega)]; exact a3
  · rw [hf 38 (by decide) (by omega), up_eq]; exact ⟨a4.1, Or.inr rfl⟩
  · rw [hf 2 (by decide) (by omega)]; exact a5
  · rw [hx]
    exact ⟨a6, a7, a8, fun x h => by cases h; exact a6, a10, a11, a12⟩
theorem back_done1 {σ s : Sg} (hc : CI σ) (hs : SaveP σ s) (hf1 : σ 42 0 = 1) : slC σ 42 43 = some (stC σ 43) ∧ Done σ (cpS s 43 1) (svA (absC σ) (stC σ 43)) := by
  have hm : slC σ 42 43 = some (stC σ 43) := by unfold slC; rw [if_pos hf1]
  have hO : OkS (stC σ 43) := hc.2.2.2.2.2.2.2.2.1 _ hm
  have hs39 : stC s 43 = stC σ 43 := stC_c (hs.1 43 (by decide) (by omega)) (hs.1 44 (by decide) (by omega)) (hs.1 45 (by decide) (by omega))
  refine ⟨hm, aft_n hc hs (fun b h => cpS_ne (by omega)) (by rw [cpS_ne (by omega)]) (fun h => by unfold ScC; rw [cpS_ne (by omega), cpS_ne (by omega), cpS_ne (by omega)]; exact h) (fun j hj => ?_) ?_ hO⟩
  · have h2 : cpS s 43 1 2 j = s 2 j := by
      unfold cpS
      rw [cp_ne (by decide), cp_eq, if_neg (by omega), cp_ne (by decide)]
    rw [h2, hs.1 2 (by decide) (by omega)]
    exact hc.2.2.2.2.1 j hj
  · rw [stC_cpS (by omega) (by rw [hs.1 43 (by decide) (by omega)]; exact hO.2.2.1.2), hs39]

theorem map_dl {α : Type} (f : Nat → α) (n : Nat) : ((List.range (n + 1)).map f).dropLast = (List.range n).map f := by
  rw [List.range_succ, List.map_append]
  exact List.dropLast_concat
theorem map_gl {α : Type} (f : Nat → α) (n : Nat) (d : α) : ((List.range (n + 1)).map f).getLastD d = f n := by
  rw [List.range_succ, List.map_append]
  simp
theorem undo_done {σ : Sg} (hc : CI σ) (h1 : 1 ≤ σ 18 0) : (absC σ).2.1 ≠ [] ∧ ((absC σ).2.1.length : Int) = σ 18 0 ∧ Done σ (up (cpS σ (20 + 3 * ((σ 18 1 + (σ 18 0 - 1)) % 6).toNat) 1) 18 0 (σ 18 0 - 1)) ((absC σ).2.1.getLastD (absC σ).1, (absC σ).2.1.dropLast, (absC σ).2.2) := by
  obtain ⟨B, hB⟩ : ∃ B, B = 20 + 3 * ((σ 18 1 + (σ 18 0 - 1)) % 6).toNat := ⟨_, rfl⟩
  rw [← hB]
  obtain ⟨n, hn⟩ : ∃ n : Nat, (σ 18 0).toNat = n + 1 := ⟨(σ 18 0).toNat - 1, by omega⟩
  have hh := hc.2.1
  unfold HistOK at hh
  have hBb : 20 ≤ B ∧ B < 38 := by omega
  have hlen : ((absC σ).2.1.length : Int) = σ 18 0 := by show ((hiC σ).length : Int) = _; rw [hiC_len]; omega
  have hne : (absC σ).2.1 ≠ [] := fun q => by rw [q] at hlen; simp at hlen; omega
  have hl : (absC σ).2.1.getLastD (absC σ).1 = stC σ B := by
    show (hiC σ).getLastD _ = _
    unfold hiC
    rw [hn, map_gl, hB]
    congr 4; omega
  have hd : (absC σ).2.1.dropLast = (List.range n).map (fun (r : Nat) => stC σ (20 + 3 * ((σ 18 1 + (r : Int)) % 6).toNat)) := by
    show (hiC σ).dropLast = _
    unfold hiC
    rw [hn, map_dl]
  have hO : OkS (stC σ B) := by
    apply hc.2.2.2.2.2.2.1
    show stC σ B ∈ hiC σ
    unfold hiC
    refine List.mem_map.mpr ⟨n, List.mem_range.mpr (by omega), ?_⟩
    rw [hB]
    congr 4; omega
  have hf : ∀ b, 4 ≤ b → b ≠ 18 → up (cpS σ B 1) 18 0 (σ 18 0 - 1) b = σ b := fun b h2 h3 => by rw [up_ne h3, cpS_ne (by omega)]
  have hcp : ∀ b, b ≠ 18 → up (cpS σ B 1) 18 0 (σ 18 0 - 1) b = cpS σ B 1 b := fun b h => by rw [up_ne h]
  have h18 : up (cpS σ B 1) 18 0 (σ 18 0 - 1) 18 0 = σ 18 0 - 1 := up_eq
  have h181 : up (cpS σ B 1) 18 0 (σ 18 0 - 1) 18 1 = σ 18 1 := by rw [up_nj (by decide), cpS_ne (by omega)]
  have hx : absC (up (cpS σ B 1) 18 0 (σ 18 0 - 1)) = ((absC σ).2.1.getLastD (absC σ).1, (absC σ).2.1.dropLast, (absC σ).2.2) := by
    rw [hl, hd]
    have e1 : stC (up (cpS σ B 1) 18 0 (σ 18 0 - 1)) 1 = stC σ B := by
      rw [stC_c (hcp 1 (by decide)) (hcp 2 (by decide)) (hcp 3 (by decide)), stC_cpS (by omega) hO.2.2.1.2]
    have e2 : hiC (up (cpS σ B 1) 18 0 (σ 18 0 - 1)) = (List.range n).map (fun (r : Nat) => stC σ (20 + 3 * ((σ 18 1 + (r : Int)) % 6).toNat)) := by
      unfold hiC
      rw [h18, h181, show (σ 18 0 - 1).toNat = n by omega]
      apply List.map_congr_left
      intro r hr
      exact stC_c (hf _ (by omega) (by omega)) (hf _ (by omega) (by omega)) (hf _ (by omega) (by omega))
    unfold absC
    rw [e1, e2, slC_c (hf 38 (by omega) (by omega)) (hf 39 (by omega) (by omega)) (hf 40 (by omega) (by omega)) (hf 41 (by omega) (by omega)), slC_c (hf 42 (by omega) (by omega)) (hf 43 (by omega) (by omega)) (hf 44 (by omega) (by omega)) (hf 45 (by omega) (by omega)), hf 16 (by omega) (by omega), hf 15 (by omega) (by omega)]
  refine ⟨hne, hlen, ⟨?_, ?_, ?_, ?_, ?_, ?_⟩, hx, fun b hb => hf b (by omega) (by omega)⟩
  · unfold ScC; rw [hf 6 (by omega) (by omega), hf 11 (by omega) (by omega), hf 13 (by omega) (by omega)]; exact hc.1
  · unfold HistOK; rw [h18, h181]; omega
  · rw [hf 15 (by omega) (by omega)]; exact hc.2.2.1
  · rw [hf 38 (by omega) (by omega), hf 42 (by omega) (by omega)]; exact hc.2.2.2.1
  · intro j hj
    rw [hcp 2 (by decide)]
    have h2 : cpS σ B 1 2 j = σ 2 j := by
      unfold cpS
      rw [cp_ne (by decide), cp_eq, if_neg (by omega), cp_ne (by decide)]
    rw [h2]
    exact hc.2.2.2.2.1 j hj
  · rw [hx]
    obtain ⟨a6, a7, a8, a9, a10, a11, a12⟩ := hc.2.2.2.2.2
    refine ⟨by rw [hl]; exact hO, fun x hx => a7 x ((List.dropLast_sublist _).subset hx), a8, a9, ?_, a11, a12⟩
    show (absC σ).2.1.dropLast.length ≤ 6
    rw [List.length_dropLast]
    omega

set_option maxHeartbeats 1000000 in
set_option maxRecDepth 100000 in
theorem tX7_clearBuffer (G : GT) (σ : Sg)  (hci : CI σ) : Ct G mX7_clearBuffer 2 0 0 false (SH Ω) (SH Ω) [Rf G 0] σ (OkP σ (oClear (absC σ))) := by
  obtain ⟨P, hP⟩ : ∃ P : Option Value → Sg → Prop, P = (OkP σ (oClear (absC σ))) := ⟨_, rfl⟩
  rw [← hP]
  refine ct_of (lv := [(0, Rf G 0)]) (by decide +kernel) (Nat.le_of_ble_eq_true rfl) rfl ?_
  have hbl := bl hci
  have hl := hci.us.2.2.2.2.2.2.2.2.2.1
  refine r_aload_n dX7_clearBuffer_0 rfl rfl ?_
  refine r_getR (b := 15) dX7_clearBuffer_1 sh0 rfl (ci := 7) (j := 4) rfl (Nat.le_of_ble_eq_true rfl) ixX7 q135 rfl ?_
  refine r_getI (z := 0) dX7_clearBuffer_4 sh15 rfl (ci := 6) (j := 0) rfl (Nat.le_of_ble_eq_true rfl) rfl ixX6 q99 rfl (hv := rfl) ?_
  refine r_istore_n (lv' := [(0, Rf G 0), (1, I (σ 15 0))]) dX7_clearBuffer_7 rfl (Nat.le_of_ble_eq_true rfl) rfl ?_
  refine r_aload_n dX7_clearBuffer_8 rfl rfl ?_
  refine r_getR (b := 15) dX7_clearBuffer_9 sh0 rfl (ci := 7) (j := 4) rfl (Nat.le_of_ble_eq_true rfl) ixX7 q135 rfl ?_
  refine r_callV (tX6_clear G σ ) dX7_clearBuffer_12 svX6_clear q450 sh15 (ci := 6) rfl rfl rfl ⟨Nat.le_of_ble_eq_true rfl, Nat.le_of_ble_eq_true rfl⟩ (Nat.le_of_ble_eq_true rfl) ⟨Nat.le_of_ble_eq_true rfl, Nat.le_of_ble_eq_true rfl⟩ ?_
  rintro _ _ ⟨rfl, rfl⟩
  refine r_iload_n dX7_clearBuffer_15 rfl rfl ?_
  exact r_iret dX7_clearBuffer_16 rfl (by rw [hP]; exact ⟨rfl, by rw [← hbl]; rfl, buf_done hci (fun a h5 h6 => by rw [up_ne h5]) (by rw [up_eq]; omega) (by rw [up_ne (by decide), up_eq]; rfl) (fun d hd => by cases hd)⟩)
set_option maxHeartbeats 1000000 in
set_option maxRecDepth 100000 in
theorem tX7_boundA (G : GT) (σ : Sg)  (hci : CI σ) : Ct G mX7_bound 1 0 0 false (SH Ω) (SH Ω) [Rf G 0] σ (OkP σ (oBound (absC σ))) := by
  obtain ⟨P, hP⟩ : ∃ P : Option Value → Sg → Prop, P = (OkP σ (oBound (absC σ))) := ⟨_, rfl⟩
  rw [← hP]
  refine ct_of (lv := [(0, Rf G 0)]) (by decide +kernel) (Nat.le_of_ble_eq_true rfl) rfl ?_
  have hR := hci.us.1
  refine r_iconst dX7_bound_0 ?_
  refine r_istore_n (lv' := [(0, Rf G 0), (1, I 0)]) dX7_bound_1 rfl (Nat.le_of_ble_eq_true rfl) rfl ?_
  refine r_aload_n dX7_bound_2 rfl rfl ?_
  refine r_getR (b := 1) dX7_bound_3 sh0 rfl (ci := 7) (j := 0) rfl (Nat.le_of_ble_eq_true rfl) ixX7 q131 rfl ?_
  refine r_getI (z := 0) dX7_bound_6 sh1 rfl (ci := 5) (j := 0) rfl (Nat.le_of_ble_eq_true rfl) rfl ixX5 q35 rfl (hv := rfl) ?_
  refine r_istore_n (lv' := [(0, Rf G 0), (1, I 0), (2, I (σ 1 0))]) dX7_bound_9 rfl (Nat.le_of_ble_eq_true rfl) rfl ?_
  have L10 : ∀ (mm : Nat) (h r : Int), r.toNat = mm → (hb : (h = 0 ∧ r = σ 1 0) ∨ (h = 1 ∧ r = σ 1 0 / 2) ∨ (h = 2 ∧ r = σ 1 0 / 4 ∧ 2 ≤ σ 1 0) ∨ (h = 3 ∧ r = σ 1 0 / 8 ∧ 4 ≤ σ 1 0) ∨ (h = 4 ∧ r = 0 ∧ 8 ≤ σ 1 0)) → Rn G mX7_bound (rmD 1 0 0) E0 (Zn G false (SH Ω) P 0 0) false (SH Ω) 0 0 10 [(0, Rf G 0), (1, I h), (2, I r)] [] σ := by
    intro mm
    induction mm using Nat.strongRecOn with
    | _ mm ih10 =>
    intro h r hm10 hb
    refine r_iload_n dX7_bound_10 rfl rfl ?_
    refine r_if_le (tgt := 24) dX7_bound_11 (by decide) (by omega) (fun hb1 => ?_) (fun hb1 => ?_)
    · skip
      refine r_aload_n dX7_bound_24 rfl rfl ?_
      refine r_getR (b := 1) dX7_bound_25 sh0 rfl (ci := 7) (j := 0) rfl (Nat.le_of_ble_eq_true rfl) ixX7 q131 rfl ?_
      refine r_getI (z := 0) dX7_bound_28 sh1 rfl (ci := 5) (j := 0) rfl (Nat.le_of_ble_eq_true rfl) rfl ixX5 q35 rfl (hv := rfl) ?_
      refine r_aload_n dX7_bound_31 rfl rfl ?_
      refine r_getR (b := 1) dX7_bound_32 sh0 rfl (ci := 7) (j := 0) rfl (Nat.le_of_ble_eq_true rfl) ixX7 q131 rfl ?_
      refine r_getI (z := 1) dX7_bound_35 sh1 rfl (ci := 5) (j := 1) rfl (Nat.le_of_ble_eq_true rfl) rfl ixX5 q39 rfl (hv := rfl) ?_
      refine r_iadd dX7_bound_38 ?_
      refine r_iload_n dX7_bound_39 rfl rfl ?_
      refine r_imul dX7_bound_40 ?_
      exact r_iret dX7_bound_41 rfl (by rw [hP]; exact ⟨rfl, by rw [hvB_is hR.1 (by omega) hb]; rfl, (Qs.refl σ).done hci⟩)
    · skip
      refine r_iinc (lv' := [(0, Rf G 0), (1, I (h + 1)), (2, I r)]) dX7_bound_14 (Nat.le_of_ble_eq_true rfl) rfl rfl ?_
      refine r_iload_n dX7_bound_17 rfl rfl ?_
      refine r_iconst dX7_bound_18 ?_
      refine r_idiv dX7_bound_19 (by omega) ?_
      refine r_istore_n (lv' := [(0, Rf G 0), (1, I (h + 1)), (2, I (r / 2))]) dX7_bound_20 rfl (Nat.le_of_ble_eq_true rfl) rfl ?_
      refine r_goto (tgt := 10) dX7_bound_21 (by decide) ?_
      exact ih10 _ (by omega) (h + 1) (r / 2) rfl (by omega)
  exact L10 _ 0 _ rfl (Or.inl ⟨rfl, rfl⟩)
set_option maxHeartbeats 1000000 in
set_option maxRecDepth 100000 in
theorem tX7_keep0 (G : GT) (σ : Sg) (k : Int) (hci : CI σ) (hrg : (-2147483648 ≤ k ∧ k ≤ 2147483647)) (hk : k = 0) : CtX G mX7_keep 6 (SH Ω) [Rf G 0, I k] σ (OkP σ (oKeep (absC σ) k)) (ExP σ (oKeep (absC σ) k) xE1 xE3) := by
  obtain ⟨P, hP⟩ : ∃ P : Option Value → Sg → Prop, P = (OkP σ (oKeep (absC σ) k)) := ⟨_, rfl⟩
  obtain ⟨X, hX⟩ : ∃ X : String → Sg → Prop, X = (ExP σ (oKeep (absC σ) k) xE1 xE3) := ⟨_, rfl⟩
  rw [← hP, ← hX]
  refine ctx_of (lv := [(0, Rf G 0), (1, I k)]) (by decide +kernel) (Nat.le_of_ble_eq_true rfl) rfl ?_
  have hci0 := hci.us
  obtain ⟨hR, hC, hn, hT, hwt, hp6, h11, h13, hh, hl, hc⟩ := hci0
  have hT9 : nT (stC σ 1) = σ 2 := hci.T
  have hO9 := OkS_now hci
  refine r_iload_n dX7_keep_0 rfl rfl ?_
  refine r_iconst dX7_keep_1 ?_
  refine r_iconst dX7_keep_2 ?_
  refine r_callS (tX7_isFromTo G σ k 0 1 (by omega)) dX7_keep_3 svX7_isFromTo q186 rfl ⟨Nat.le_of_ble_eq_true rfl, Nat.le_of_ble_eq_true rfl⟩ (Nat.le_of_ble_eq_true rfl) ⟨Nat.le_of_ble_eq_true rfl, Nat.le_of_ble_eq_true rfl⟩ ?_
  rintro _ _ ⟨⟨hq1, rfl⟩ | ⟨hq1, rfl⟩, rfl⟩
  · skip
    refine r_if_ne (tgt := 19) dX7_keep_6 (by decide) (by omega) (fun hb2 => ?_) (fun hb2 => ?_)
    · skip
      refine r_aload_n dX7_keep_19 rfl rfl ?_
      refine r_iload_n dX7_keep_20 rfl rfl ?_
      refine r_callV (tX7_slotAt0 G σ k (hk)) dX7_keep_21 svX7_slotAt q328 sh0 (ci := 7) rfl rfl rfl ⟨Nat.le_of_ble_eq_true rfl, Nat.le_of_ble_eq_true rfl⟩ (Nat.le_of_ble_eq_true rfl) ⟨Nat.le_of_ble_eq_true rfl, Nat.le_of_ble_eq_true rfl⟩ ?_
      rintro _ _ ⟨rfl, rfl⟩
      refine r_aload_n dX7_keep_24 rfl rfl ?_
      refine r_getR (b := 1) dX7_keep_25 sh0 rfl (ci := 7) (j := 0) rfl (Nat.le_of_ble_eq_true rfl) ixX7 q131 rfl ?_
      refine r_callV (tX4_fillFrom38 G σ ) dX7_keep_28 svX4_fillFrom q331 sh38 (ci := 4) rfl rfl rfl ⟨Nat.le_of_ble_eq_true rfl, Nat.le_of_ble_eq_true rfl⟩ (Nat.le_of_ble_eq_true rfl) ⟨Nat.le_of_ble_eq_true rfl, Nat.le_of_ble_eq_true rfl⟩ ?_
      rintro _ _ ⟨rfl, rfl⟩
      refine r_aload_n dX7_keep_31 rfl rfl ?_
      refine r_getR (b := 1) dX7_keep_32 sh0 rfl (ci := 7) (j := 0) rfl (Nat.le_of_ble_eq_true rfl) ixX7 q131 rfl ?_
      refine r_getI (z := 0) dX7_keep_35 sh1 rfl (ci := 5) (j := 0) rfl (Nat.le_of_ble_eq_true rfl) rfl ixX5 q35 rfl (hv := (congrFun (up_ne (by decide)) 0).trans (congrFun (cpS_ne (by decide)) 0)) ?_
      exact r_xl (r_widen (Nat.le_of_ble_eq_true rfl) (Nat.le_of_ble_eq_true rfl) (r_iret dX7_keep_38 rfl (by rw [hP]; exact by rw [oKeep_e, if_pos hk]; exact ⟨rfl, rfl, keep_done0 hci⟩)))
    · skip
      exact absurd hb2 (by omega)
  · skip
    exact absurd (show 0 ≤ k ∧ k ≤ 1 by omega) hq1
set_option maxHeartbeats 1000000 in
set_option maxRecDepth 100000 in
theorem tX7_goBack0 (G : GT) (σ : Sg) (k : Int) (hci : CI σ) (hrg : (-2147483648 ≤ k ∧ k ≤ 2147483647)) (hk : k = 0) : CtX G mX7_goBack 6 (SH Ω) [Rf G 0, I k] σ (OkP σ (oBack (absC σ) k)) (ExP σ (oBack (absC σ) k) xE1 xE3) := by
  obtain ⟨P, hP⟩ : ∃ P : Option Value → Sg → Prop, P = (OkP σ (oBack (absC σ) k)) := ⟨_, rfl⟩
  obtain ⟨X, hX⟩ : ∃ X : String → Sg → Prop, X = (ExP σ (oBack (absC σ) k) xE1 xE3) := ⟨_, rfl⟩
  rw [← hP, ← hX]
  refine ctx_of (lv := [(0, Rf G 0), (1, I k)]) (by decide +kernel) (Nat.le_of_ble_eq_true rfl) rfl ?_
  have hci0 := hci.us
  obtain ⟨hR, hC, hn, hT, hwt, hp6, h11, h13, hh, hl, hc⟩ := hci0
  have hT9 : nT (stC σ 1) = σ 2 := hci.T
  have hO9 := OkS_now hci
  have hf := hci.2.2.2.1.1
  refine r_iload_n dX7_goBack_0 rfl rfl ?_
  refine r_iconst dX7_goBack_1 ?_
  refine r_iconst dX7_goBack_2 ?_
  refine r_callS (tX7_isFromTo G σ k 0 1 (by omega)) dX7_goBack_3 svX7_isFromTo q186 rfl ⟨Nat.le_of_ble_eq_true rfl, Nat.le_of_ble_eq_true rfl⟩ (Nat.le_of_ble_eq_true rfl) ⟨Nat.le_of_ble_eq_true rfl, Nat.le_of_ble_eq_true rfl⟩ ?_
  rintro _ _ ⟨⟨hq1, rfl⟩ | ⟨hq1, rfl⟩, rfl⟩
  · skip
    refine r_if_ne (tgt := 19) dX7_goBack_6 (by decide) (by omega) (fun hb2 => ?_) (fun hb2 => ?_)
    · skip
      refine r_aload_n dX7_goBack_19 rfl rfl ?_
      refine r_iload_n dX7_goBack_20 rfl rfl ?_
      refine r_callV (tX7_slotAt0 G σ k (hk)) dX7_goBack_21 svX7_slotAt q328 sh0 (ci := 7) rfl rfl rfl ⟨Nat.le_of_ble_eq_true rfl, Nat.le_of_ble_eq_true rfl⟩ (Nat.le_of_ble_eq_true rfl) ⟨Nat.le_of_ble_eq_true rfl, Nat.le_of_ble_eq_true rfl⟩ ?_
      rintro _ _ ⟨rfl, rfl⟩
      refine r_astore_n (lv' := [(0, Rf G 0), (1, I k), (2, Rf G 38)]) dX7_goBack_24 rfl (Nat.le_of_ble_eq_true rfl) rfl ?_
      refine r_aload_n dX7_goBack_25 rfl rfl ?_
      refine r_getI (z := 0) dX7_goBack_26 sh38 rfl (ci := 4) (j := 0) rfl (Nat.le_of_ble_eq_true rfl) rfl ixX4 q128 rfl (hv := rfl) ?_
      refine r_if_ne (tgt := 42) dX7_goBack_29 (by decide) (by omega) (fun hb3 => ?_) (fun hb3 => ?_)
      · skip
        refine r_aload_n dX7_goBack_42 rfl rfl ?_
        refine r_getR (b := 18) dX7_goBack_43 sh0 rfl (ci := 7) (j := 5) rfl (Nat.le_of_ble_eq_true rfl) ixX7 q136 rfl ?_
        refine r_aload_n dX7_goBack_46 rfl rfl ?_
        refine r_getR (b := 1) dX7_goBack_47 sh0 rfl (ci := 7) (j := 0) rfl (Nat.le_of_ble_eq_true rfl) ixX7 q131 rfl ?_
        refine r_callV (tX2_save G σ  (hci.us.2.2.2.2.2.2.2.2.1) (hci.us.2.2.1.2)) dX7_goBack_50 svX2_save q195 sh18 (ci := 2) rfl rfl rfl ⟨Nat.le_of_ble_eq_true rfl, Nat.le_of_ble_eq_true rfl⟩ (Nat.le_of_ble_eq_true rfl) ⟨Nat.le_of_ble_eq_true rfl, Nat.le_of_ble_eq_true rfl⟩ ?_
        rintro _ s ⟨rfl, hs⟩
        refine r_aload_n dX7_goBack_53 rfl rfl ?_
        refine r_getR (b := 1) dX7_goBack_54 sh0 rfl (ci := 7) (j := 0) rfl (Nat.le_of_ble_eq_true rfl) ixX7 q131 rfl ?_
        refine r_aload_n dX7_goBack_57 rfl rfl ?_
        refine r_getR (b := 39) dX7_goBack_58 sh38 rfl (ci := 4) (j := 1) rfl (Nat.le_of_ble_eq_true rfl) ixX4 q130 rfl ?_
        refine r_callV (tX5_copyFrom G s 1 39 (StId_1) (StId_39) (by omega)) dX7_goBack_61 svX5_copyFrom q340 sh1 (ci := 5) rfl rfl rfl ⟨Nat.le_of_ble_eq_true rfl, Nat.le_of_ble_eq_true rfl⟩ (Nat.le_of_ble_eq_true rfl) ⟨Nat.le_of_ble_eq_true rfl, Nat.le_of_ble_eq_true rfl⟩ ?_
        rintro _ _ ⟨rfl, rfl⟩
        refine r_aload_n dX7_goBack_64 rfl rfl ?_
        refine r_getR (b := 1) dX7_goBack_65 sh0 rfl (ci := 7) (j := 0) rfl (Nat.le_of_ble_eq_true rfl) ixX7 q131 rfl ?_
        refine r_getI (z := 0) dX7_goBack_68 sh1 rfl (ci := 5) (j := 0) rfl (Nat.le_of_ble_eq_true rfl) rfl ixX5 q35 rfl (hv := (cpS_0 (by decide)).trans (congrFun (hs.1 39 (by decide) (by decide)) 0)) ?_
        exact r_xl (r_widen (Nat.le_of_ble_eq_true rfl) (Nat.le_of_ble_eq_true rfl) (r_iret dX7_goBack_71 rfl (by rw [hP]; exact by obtain ⟨hm, hD⟩ := back_done0 hci hs (by omega); rw [oBack_e, if_pos hk, show (absC σ).2.2.1 = some (stC σ 39) from hm]; exact ⟨rfl, rfl, hD⟩)))
      · skip
        exact r_throw xg3 xn3 rfl q254 q15 stl222 xf3 xo3 dX7_goBack_32 dX7_goBack_35 dX7_goBack_36 dX7_goBack_38 dX7_goBack_41 (Nat.le_of_ble_eq_true rfl) (Nat.le_of_ble_eq_true rfl) (Nat.le_of_ble_eq_true rfl) (Nat.le_of_ble_eq_true rfl) (by rw [hX]; exact by rw [oBack_e, if_pos hk, show (absC σ).2.2.1 = none from (by show slC σ 38 39 = none; unfold slC; rw [if_neg (by omega)])]; exact ⟨Or.inr ⟨rfl, rfl⟩, ((Qs.refl σ)).done hci⟩)
    · skip
      exact absurd hb2 (by omega)
  · skip
    exact absurd (show 0 ≤ k ∧ k ≤ 1 by omega) hq1
set_option maxHeartbeats 1000000 in
set_option maxRecDepth 100000 in
theorem tX7_keep1 (G : GT) (σ : Sg) (k : Int) (hci : CI σ) (hrg : (-2147483648 ≤ k ∧ k ≤ 2147483647)) (hk : k = 1) : CtX G mX7_keep 6 (SH Ω) [Rf G 0, I k] σ (OkP σ (oKeep (absC σ) k)) (ExP σ (oKeep (absC σ) k) xE1 xE3) := by
  obtain ⟨P, hP⟩ : ∃ P : Option Value → Sg → Prop, P = (OkP σ (oKeep (absC σ) k)) := ⟨_, rfl⟩
  obtain ⟨X, hX⟩ : ∃ X : String → Sg → Prop, X = (ExP σ (oKeep (absC σ) k) xE1 xE3) := ⟨_, rfl⟩
  rw [← hP, ← hX]
  refine ctx_of (lv := [(0, Rf G 0), (1, I k)]) (by decide +kernel) (Nat.le_of_ble_eq_true rfl) rfl ?_
  have hci0 := hci.us
  obtain ⟨hR, hC, hn, hT, hwt, hp6, h11, h13, hh, hl, hc⟩ := hci0
  have hT9 : nT (stC σ 1) = σ 2 := hci.T
  have hO9 := OkS_now hci
  refine r_iload_n dX7_keep_0 rfl rfl ?_
  refine r_iconst dX7_keep_1 ?_
  refine r_iconst dX7_keep_2 ?_
  refine r_callS (tX7_isFromTo G σ k 0 1 (by omega)) dX7_keep_3 svX7_isFromTo q186 rfl ⟨Nat.le_of_ble_eq_true rfl, Nat.le_of_ble_eq_true rfl⟩ (Nat.le_of_ble_eq_true rfl) ⟨Nat.le_of_ble_eq_true rfl, Nat.le_of_ble_eq_true rfl⟩ ?_
  rintro _ _ ⟨⟨hq1, rfl⟩ | ⟨hq1, rfl⟩, rfl⟩
  · skip
    refine r_if_ne (tgt := 19) dX7_keep_6 (by decide) (by omega) (fun hb2 => ?_) (fun hb2 => ?_)
    · skip
      refine r_aload_n dX7_keep_19 rfl rfl ?_
      refine r_iload_n dX7_keep_20 rfl rfl ?_
      refine r_callV (tX7_slotAt1 G σ k (hk)) dX7_keep_21 svX7_slotAt q328 sh0 (ci := 7) rfl rfl rfl ⟨Nat.le_of_ble_eq_true rfl, Nat.le_of_ble_eq_true rfl⟩ (Nat.le_of_ble_eq_true rfl) ⟨Nat.le_of_ble_eq_true rfl, Nat.le_of_ble_eq_true rfl⟩ ?_
      rintro _ _ ⟨rfl, rfl⟩
      refine r_aload_n dX7_keep_24 rfl rfl ?_
      refine r_getR (b := 1) dX7_keep_25 sh0 rfl (ci := 7) (j := 0) rfl (Nat.le_of_ble_eq_true rfl) ixX7 q131 rfl ?_
      refine r_callV (tX4_fillFrom42 G σ ) dX7_keep_28 svX4_fillFrom q331 sh42 (ci := 4) rfl rfl rfl ⟨Nat.le_of_ble_eq_true rfl, Nat.le_of_ble_eq_true rfl⟩ (Nat.le_of_ble_eq_true rfl) ⟨Nat.le_of_ble_eq_true rfl, Nat.le_of_ble_eq_true rfl⟩ ?_
      rintro _ _ ⟨rfl, rfl⟩
      refine r_aload_n dX7_keep_31 rfl rfl ?_
      refine r_getR (b := 1) dX7_keep_32 sh0 rfl (ci := 7) (j := 0) rfl (Nat.le_of_ble_eq_true rfl) ixX7 q131 rfl ?_
      refine r_getI (z := 0) dX7_keep_35 sh1 rfl (ci := 5) (j := 0) rfl (Nat.le_of_ble_eq_true rfl) rfl ixX5 q35 rfl (hv := (congrFun (up_ne (by decide)) 0).trans (congrFun (cpS_ne (by decide)) 0)) ?_
      exact r_xl (r_widen (Nat.le_of_ble_eq_true rfl) (Nat.le_of_ble_eq_true rfl) (r_iret dX7_keep_38 rfl (by rw [hP]; exact by rw [oKeep_e, if_neg (by omega), if_pos hk]; exact ⟨rfl, rfl, keep_done1 hci⟩)))
    · skip
      exact absurd hb2 (by omega)
  · skip
    exact absurd (show 0 ≤ k ∧ k ≤ 1 by omega) hq1
set_option maxHeartbeats 1000000 in
set_option maxRecDepth 100000 in
theorem tX7_goBack1 (G : GT) (σ : Sg) (k : Int) (hci : CI σ) (hrg : (-2147483648 ≤ k ∧ k ≤ 2147483647)) (hk : k = 1) : CtX G mX7_goBack 6 (SH Ω) [Rf G 0, I k] σ (OkP σ (oBack (absC σ) k)) (ExP σ (oBack (absC σ) k) xE1 xE3) := by
  obtain ⟨P, hP⟩ : ∃ P : Option Value → Sg → Prop, P = (OkP σ (oBack (absC σ) k)) := ⟨_, rfl⟩
  obtain ⟨X, hX⟩ : ∃ X : String → Sg → Prop, X = (ExP σ (oBack (absC σ) k) xE1 xE3) := ⟨_, rfl⟩
  rw [← hP, ← hX]
  refine ctx_of (lv := [(0, Rf G 0), (1, I k)]) (by decide +kernel) (Nat.le_of_ble_eq_true rfl) rfl ?_
  have hci0 := hci.us
  obtain ⟨hR, hC, hn, hT, hwt, hp6, h11, h13, hh, hl, hc⟩ := hci0
  have hT9 : nT (stC σ 1) = σ 2 := hci.T
  have hO9 := OkS_now hci
  have hf := hci.2.2.2.1.2
  refine r_iload_n dX7_goBack_0 rfl rfl ?_
  refine r_iconst dX7_goBack_1 ?_
  refine r_iconst dX7_goBack_2 ?_
  refine r_callS (tX7_isFromTo G σ k 0 1 (by omega)) dX7_goBack_3 svX7_isFromTo q186 rfl ⟨Nat.le_of_ble_eq_true rfl, Nat.le_of_ble_eq_true rfl⟩ (Nat.le_of_ble_eq_true rfl) ⟨Nat.le_of_ble_eq_true rfl, Nat.le_of_ble_eq_true rfl⟩ ?_
  rintro _ _ ⟨⟨hq1, rfl⟩ | ⟨hq1, rfl⟩, rfl⟩
  · skip
    refine r_if_ne (tgt := 19) dX7_goBack_6 (by decide) (by omega) (fun hb2 => ?_) (fun hb2 => ?_)
    · skip
      refine r_aload_n dX7_goBack_19 rfl rfl ?_
      refine r_iload_n dX7_goBack_20 rfl rfl ?_
      refine r_callV (tX7_slotAt1 G σ k (hk)) dX7_goBack_21 svX7_slotAt q328 sh0 (ci := 7) rfl rfl rfl ⟨Nat.le_of_ble_eq_true rfl, Nat.le_of_ble_eq_true rfl⟩ (Nat.le_of_ble_eq_true rfl) ⟨Nat.le_of_ble_eq_true rfl, Nat.le_of_ble_eq_true rfl⟩ ?_
      rintro _ _ ⟨rfl, rfl⟩
      refine r_astore_n (lv' := [(0, Rf G 0), (1, I k), (2, Rf G 42)]) dX7_goBack_24 rfl (Nat.le_of_ble_eq_true rfl) rfl ?_
      refine r_aload_n dX7_goBack_25 rfl rfl ?_
      refine r_getI (z := 0) dX7_goBack_26 sh42 rfl (ci := 4) (j := 0) rfl (Nat.le_of_ble_eq_true rfl) rfl ixX4 q128 rfl (hv := rfl) ?_
      refine r_if_ne (tgt := 42) dX7_goBack_29 (by decide) (by omega) (fun hb3 => ?_) (fun hb3 => ?_)
      · skip
        refine r_aload_n dX7_goBack_42 rfl rfl ?_
        refine r_getR (b := 18) dX7_goBack_43 sh0 rfl (ci := 7) (j := 5) rfl (Nat.le_of_ble_eq_true rfl) ixX7 q136 rfl ?_
        refine r_aload_n dX7_goBack_46 rfl rfl ?_
        refine r_getR (b := 1) dX7_goBack_47 sh0 rfl (ci := 7) (j := 0) rfl (Nat.le_of_ble_eq_true rfl) ixX7 q131 rfl ?_
        refine r_callV (tX2_save G σ  (hci.us.2.2.2.2.2.2.2.2.1) (hci.us.2.2.1.2)) dX7_goBack_50 svX2_save q195 sh18 (ci := 2) rfl rfl rfl ⟨Nat.le_of_ble_eq_true rfl, Nat.le_of_ble_eq_true rfl⟩ (Nat.le_of_ble_eq_true rfl) ⟨Nat.le_of_ble_eq_true rfl, Nat.le_of_ble_eq_true rfl⟩ ?_
        rintro _ s ⟨rfl, hs⟩
        refine r_aload_n dX7_goBack_53 rfl rfl ?_
        refine r_getR (b := 1) dX7_goBack_54 sh0 rfl (ci := 7) (j := 0) rfl (Nat.le_of_ble_eq_true rfl) ixX7 q131 rfl ?_
        refine r_aload_n dX7_goBack_57 rfl rfl ?_
        refine r_getR (b := 43) dX7_goBack_58 sh42 rfl (ci := 4) (j := 1) rfl (Nat.le_of_ble_eq_true rfl) ixX4 q130 rfl ?_
        refine r_callV (tX5_copyFrom G s 1 43 (StId_1) (StId_43) (by omega)) dX7_goBack_61 svX5_copyFrom q340 sh1 (ci := 5) rfl rfl rfl ⟨Nat.le_of_ble_eq_true rfl, Nat.le_of_ble_eq_true rfl⟩ (Nat.le_of_ble_eq_true rfl) ⟨Nat.le_of_ble_eq_true rfl, Nat.le_of_ble_eq_true rfl⟩ ?_
        rintro _ _ ⟨rfl, rfl⟩
        refine r_aload_n dX7_goBack_64 rfl rfl ?_
        refine r_getR (b := 1) dX7_goBack_65 sh0 rfl (ci := 7) (j := 0) rfl (Nat.le_of_ble_eq_true rfl) ixX7 q131 rfl ?_
        refine r_getI (z := 0) dX7_goBack_68 sh1 rfl (ci := 5) (j := 0) rfl (Nat.le_of_ble_eq_true rfl) rfl ixX5 q35 rfl (hv := (cpS_0 (by decide)).trans (congrFun (hs.1 43 (by decide) (by decide)) 0)) ?_
        exact r_xl (r_widen (Nat.le_of_ble_eq_true rfl) (Nat.le_of_ble_eq_true rfl) (r_iret dX7_goBack_71 rfl (by rw [hP]; exact by obtain ⟨hm, hD⟩ := back_done1 hci hs (by omega); rw [oBack_e, if_neg (by omega), if_pos hk, show (absC σ).2.2.2.1 = some (stC σ 43) from hm]; exact ⟨rfl, rfl, hD⟩)))
      · skip
        exact r_throw xg3 xn3 rfl q254 q15 stl222 xf3 xo3 dX7_goBack_32 dX7_goBack_35 dX7_goBack_36 dX7_goBack_38 dX7_goBack_41 (Nat.le_of_ble_eq_true rfl) (Nat.le_of_ble_eq_true rfl) (Nat.le_of_ble_eq_true rfl) (Nat.le_of_ble_eq_true rfl) (by rw [hX]; exact by rw [oBack_e, if_neg (by omega), if_pos hk, show (absC σ).2.2.2.1 = none from (by show slC σ 42 43 = none; unfold slC; rw [if_neg (by omega)])]; exact ⟨Or.inr ⟨rfl, rfl⟩, ((Qs.refl σ)).done hci⟩)
    · skip
      exact absurd hb2 (by omega)
  · skip
    exact absurd (show 0 ≤ k ∧ k ≤ 1 by omega) hq1
set_option maxHeartbeats 1000000 in
set_option maxRecDepth 100000 in
theorem tX7_keepN (G : GT) (σ : Sg) (k : Int) (hci : CI σ) (hrg : (-2147483648 ≤ k ∧ k ≤ 2147483647)) (hk : ¬ (k = 0 ∨ k = 1)) : CtX G mX7_keep 6 (SH Ω) [Rf G 0, I k] σ (OkP σ (oKeep (absC σ) k)) (ExP σ (oKeep (absC σ) k) xE1 xE3) := by
  obtain ⟨P, hP⟩ : ∃ P : Option Value → Sg → Prop, P = (OkP σ (oKeep (absC σ) k)) := ⟨_, rfl⟩
  obtain ⟨X, hX⟩ : ∃ X : String → Sg → Prop, X = (ExP σ (oKeep (absC σ) k) xE1 xE3) := ⟨_, rfl⟩
  rw [← hP, ← hX]
  refine ctx_of (lv := [(0, Rf G 0), (1, I k)]) (by decide +kernel) (Nat.le_of_ble_eq_true rfl) rfl ?_
  have hci0 := hci.us
  obtain ⟨hR, hC, hn, hT, hwt, hp6, h11, h13, hh, hl, hc⟩ := hci0
  have hT9 : nT (stC σ 1) = σ 2 := hci.T
  have hO9 := OkS_now hci
  refine r_iload_n dX7_keep_0 rfl rfl ?_
  refine r_iconst dX7_keep_1 ?_
  refine r_iconst dX7_keep_2 ?_
  refine r_callS (tX7_isFromTo G σ k 0 1 (by omega)) dX7_keep_3 svX7_isFromTo q186 rfl ⟨Nat.le_of_ble_eq_true rfl, Nat.le_of_ble_eq_true rfl⟩ (Nat.le_of_ble_eq_true rfl) ⟨Nat.le_of_ble_eq_true rfl, Nat.le_of_ble_eq_true rfl⟩ ?_
  rintro _ _ ⟨⟨hq1, rfl⟩ | ⟨hq1, rfl⟩, rfl⟩
  · skip
    exact absurd hq1 (by omega)
  · skip
    refine r_if_ne (tgt := 19) dX7_keep_6 (by decide) (by omega) (fun hb2 => ?_) (fun hb2 => ?_)
    · skip
      exact absurd hb2 (by omega)
    · skip
      exact r_throw xg1 xn1 rfl q187 q12 stl209 xf1 xo1 dX7_keep_9 dX7_keep_12 dX7_keep_13 dX7_keep_15 dX7_keep_18 (Nat.le_of_ble_eq_true rfl) (Nat.le_of_ble_eq_true rfl) (Nat.le_of_ble_eq_true rfl) (Nat.le_of_ble_eq_true rfl) (by rw [hX]; exact by rw [oKeep_e, if_neg (by omega), if_neg (by omega)]; exact ⟨Or.inl ⟨rfl, rfl⟩, ((Qs.refl σ)).done hci⟩)
set_option maxHeartbeats 1000000 in
set_option maxRecDepth 100000 in
theorem tX7_goBackN (G : GT) (σ : Sg) (k : Int) (hci : CI σ) (hrg : (-2147483648 ≤ k ∧ k ≤ 2147483647)) (hk : ¬ (k = 0 ∨ k = 1)) : CtX G mX7_goBack 6 (SH Ω) [Rf G 0, I k] σ (OkP σ (oBack (absC σ) k)) (ExP σ (oBack (absC σ) k) xE1 xE3) := by
  obtain ⟨P, hP⟩ : ∃ P : Option Value → Sg → Prop, P = (OkP σ (oBack (absC σ) k)) := ⟨_, rfl⟩
  obtain ⟨X, hX⟩ : ∃ X : String → Sg → Prop, X = (ExP σ (oBack (absC σ) k) xE1 xE3) := ⟨_, rfl⟩
  rw [← hP, ← hX]
  refine ctx_of (lv := [(0, Rf G 0), (1, I k)]) (by decide +kernel) (Nat.le_of_ble_eq_true rfl) rfl ?_
  have hci0 := hci.us
  obtain ⟨hR, hC, hn, hT, hwt, hp6, h11, h13, hh, hl, hc⟩ := hci0
  have hT9 : nT (stC σ 1) = σ 2 := hci.T
  have hO9 := OkS_now hci
  refine r_iload_n dX7_goBack_0 rfl rfl ?_
  refine r_iconst dX7_goBack_1 ?_
  refine r_iconst dX7_goBack_2 ?_
  refine r_callS (tX7_isFromTo G σ k 0 1 (by omega)) dX7_goBack_3 svX7_isFromTo q186 rfl ⟨Nat.le_of_ble_eq_true rfl, Nat.le_of_ble_eq_true rfl⟩ (Nat.le_of_ble_eq_true rfl) ⟨Nat.le_of_ble_eq_true rfl, Nat.le_of_ble_eq_true rfl⟩ ?_
  rintro _ _ ⟨⟨hq1, rfl⟩ | ⟨hq1, rfl⟩, rfl⟩
  · skip
    exact absurd hq1 (by omega)
  · skip
    refine r_if_ne (tgt := 19) dX7_goBack_6 (by decide) (by omega) (fun hb2 => ?_) (fun hb2 => ?_)
    · skip
      exact absurd hb2 (by omega)
    · skip
      exact r_throw xg1 xn1 rfl q187 q12 stl209 xf1 xo1 dX7_goBack_9 dX7_goBack_12 dX7_goBack_13 dX7_goBack_15 dX7_goBack_18 (Nat.le_of_ble_eq_true rfl) (Nat.le_of_ble_eq_true rfl) (Nat.le_of_ble_eq_true rfl) (Nat.le_of_ble_eq_true rfl) (by rw [hX]; exact by rw [oBack_e, if_neg (by omega), if_neg (by omega)]; exact ⟨Or.inl ⟨rfl, rfl⟩, ((Qs.refl σ)).done hci⟩)
set_option maxHeartbeats 1000000 in
set_option maxRecDepth 100000 in
theorem tX7_undo (G : GT) (σ : Sg)  (hci : CI σ) : CtX G mX7_undo 6 (SH Ω) [Rf G 0] σ (OkP σ (oUndo (absC σ))) (ExP σ (oUndo (absC σ)) xE3 xE3) := by
  obtain ⟨P, hP⟩ : ∃ P : Option Value → Sg → Prop, P = (OkP σ (oUndo (absC σ))) := ⟨_, rfl⟩
  obtain ⟨X, hX⟩ : ∃ X : String → Sg → Prop, X = (ExP σ (oUndo (absC σ)) xE3 xE3) := ⟨_, rfl⟩
  rw [← hP, ← hX]
  refine ctx_of (lv := [(0, Rf G 0)]) (by decide +kernel) (Nat.le_of_ble_eq_true rfl) rfl ?_
  have hci0 := hci.us
  obtain ⟨hR, hC, hn, hT, hwt, hp6, h11, h13, hh, hl, hc⟩ := hci0
  have hT9 : nT (stC σ 1) = σ 2 := hci.T
  have hO9 := OkS_now hci
  have hh2 := hh
  unfold HistOK at hh2
  refine r_aload_n dX7_undo_0 rfl rfl ?_
  refine r_getR (b := 18) dX7_undo_1 sh0 rfl (ci := 7) (j := 5) rfl (Nat.le_of_ble_eq_true rfl) ixX7 q136 rfl ?_
  refine r_getI (z := 0) dX7_undo_4 sh18 rfl (ci := 2) (j := 0) rfl (Nat.le_of_ble_eq_true rfl) rfl ixX2 q116 rfl (hv := rfl) ?_
  refine r_if_ne (tgt := 20) dX7_undo_7 (by decide) (by omega) (fun hb1 => ?_) (fun hb1 => ?_)
  · skip
    refine r_aload_n dX7_undo_20 rfl rfl ?_
    refine r_getR (b := 1) dX7_undo_21 sh0 rfl (ci := 7) (j := 0) rfl (Nat.le_of_ble_eq_true rfl) ixX7 q131 rfl ?_
    refine r_aload_n dX7_undo_24 rfl rfl ?_
    refine r_getR (b := 18) dX7_undo_25 sh0 rfl (ci := 7) (j := 5) rfl (Nat.le_of_ble_eq_true rfl) ixX7 q136 rfl ?_
    refine r_callV (tX2_latest G σ  (⟨by omega, hh.2.1⟩) (hh.2.2)) dX7_undo_28 svX2_latest q345 sh18 (ci := 2) rfl rfl rfl ⟨Nat.le_of_ble_eq_true rfl, Nat.le_of_ble_eq_true rfl⟩ (Nat.le_of_ble_eq_true rfl) ⟨Nat.le_of_ble_eq_true rfl, Nat.le_of_ble_eq_true rfl⟩ ?_
    rintro _ _ ⟨rfl, rfl⟩
    refine r_callV (tX5_copyFrom G σ 1 (20 + 3 * ((σ 18 1 + (σ 18 0 - 1)) % 6).toNat) (StId_1) (StId_sv (by omega)) (by omega)) dX7_undo_31 svX5_copyFrom q340 sh1 (ci := 5) rfl rfl rfl ⟨Nat.le_of_ble_eq_true rfl, Nat.le_of_ble_eq_true rfl⟩ (Nat.le_of_ble_eq_true rfl) ⟨Nat.le_of_ble_eq_true rfl, Nat.le_of_ble_eq_true rfl⟩ ?_
    rintro _ _ ⟨rfl, rfl⟩
    refine r_aload_n dX7_undo_34 rfl rfl ?_
    refine r_getR (b := 18) dX7_undo_35 sh0 rfl (ci := 7) (j := 5) rfl (Nat.le_of_ble_eq_true rfl) ixX7 q136 rfl ?_
    refine r_dup dX7_undo_38 rfl ?_
    refine r_getI (z := 0) dX7_undo_39 sh18 rfl (ci := 2) (j := 0) rfl (Nat.le_of_ble_eq_true rfl) rfl ixX2 q116 rfl (hv := congrFun (cpS_ne (by decide)) 0) ?_
    refine r_iconst dX7_undo_42 ?_
    refine r_isub dX7_undo_43 ?_
    refine r_putI (z := 0) tyX2 dX7_undo_44 sh18 rfl (ci := 2) (j := 0) rfl (Nat.le_of_ble_eq_true rfl) rfl tyX2_ok nmX2 ixX2 q116 rfl rfl rfl ?_
    refine r_aload_n dX7_undo_47 rfl rfl ?_
    refine r_getR (b := 18) dX7_undo_48 sh0 rfl (ci := 7) (j := 5) rfl (Nat.le_of_ble_eq_true rfl) ixX7 q136 rfl ?_
    refine r_getI (z := 0) dX7_undo_51 sh18 rfl (ci := 2) (j := 0) rfl (Nat.le_of_ble_eq_true rfl) rfl ixX2 q116 rfl (hv := up_eq) ?_
    exact r_xl (r_widen (Nat.le_of_ble_eq_true rfl) (Nat.le_of_ble_eq_true rfl) (r_iret dX7_undo_54 rfl (by rw [hP]; exact by obtain ⟨h1, h2, hD⟩ := undo_done hci (by have := hh.1; omega); rw [oUndo_e, if_neg h1]; exact ⟨rfl, by rw [h2], hD⟩)))
  · skip
    exact r_throw xg3 xn3 rfl q254 q15 stl233 xf3 xo3 dX7_undo_10 dX7_undo_13 dX7_undo_14 dX7_undo_16 dX7_undo_19 (Nat.le_of_ble_eq_true rfl) (Nat.le_of_ble_eq_true rfl) (Nat.le_of_ble_eq_true rfl) (Nat.le_of_ble_eq_true rfl) (by rw [hX]; exact by rw [oUndo_e, if_pos (show (absC σ).2.1 = [] by (show hiC σ = []); unfold hiC; rw [show (σ 18 0).toNat = 0 by omega]; rfl)]; exact ⟨Or.inl ⟨rfl, rfl⟩, ((Qs.refl σ)).done hci⟩)
