
theorem xs1 : (.castable xE1 xE1 : Cond) ∈ XSW := List.mem_cons_self
theorem xs2 : (.castable xE2 xE2 : Cond) ∈ XSW := List.mem_cons_of_mem _ List.mem_cons_self
theorem xs3 : (.castable xE3 xE3 : Cond) ∈ XSW := List.mem_cons_of_mem _ (List.mem_cons_of_mem _ List.mem_cons_self)
theorem xc12 : (xE1, xE2) ∈ XC2 := by simp [XC2]
theorem xc13 : (xE1, xE3) ∈ XC2 := by simp [XC2]
theorem xc21 : (xE2, xE1) ∈ XC2 := by simp [XC2]
theorem xc23 : (xE2, xE3) ∈ XC2 := by simp [XC2]
theorem xc31 : (xE3, xE1) ∈ XC2 := by simp [XC2]
theorem xc32 : (xE3, xE2) ∈ XC2 := by simp [XC2]
theorem tX7_keep (G : GT) (σ : Sg) (k : Int) (hci : CI σ) (hrg : (-2147483648 ≤ k ∧ k ≤ 2147483647)) : CtX G mX7_keep 6 SH [Rf G 0, I k] σ (OkP σ (oKeep (absC σ) k)) (ExP σ (oKeep (absC σ) k) xE1 xE3) := by
  by_cases h0 : k = 0
  · exact tX7_keep0 G σ k hci hrg h0
  · by_cases h1 : k = 1
    · exact tX7_keep1 G σ k hci hrg h1
    · exact tX7_keepN G σ k hci hrg (fun q => q.elim h0 h1)
theorem tX7_goBack (G : GT) (σ : Sg) (k : Int) (hci : CI σ) (hrg : (-2147483648 ≤ k ∧ k ≤ 2147483647)) : CtX G mX7_goBack 6 SH [Rf G 0, I k] σ (OkP σ (oBack (absC σ) k)) (ExP σ (oBack (absC σ) k) xE1 xE3) := by
  by_cases h0 : k = 0
  · exact tX7_goBack0 G σ k hci hrg h0
  · by_cases h1 : k = 1
    · exact tX7_goBack1 G σ k hci hrg h1
    · exact tX7_goBackN G σ k hci hrg (fun q => q.elim h0 h1)

set_option maxHeartbeats 1000000 in
set_option maxRecDepth 100000 in
theorem tL_size (G : GT) (σ : Sg) (r c : Int) (hci : CI σ) (hrg : (-2147483648 ≤ r ∧ r ≤ 2147483647) ∧ (-2147483648 ≤ c ∧ c ≤ 2147483647)) : CtW G mL_size [(0, 10, 13, 13)] 7 SH [Rf G 0, I r, I c, Rf G 59] σ (WkP σ (oSize (absC σ) r c)) := by
  obtain ⟨P, hP⟩ : ∃ P : Option Value → Sg → Prop, P = (WkP σ (oSize (absC σ) r c)) := ⟨_, rfl⟩
  rw [← hP]
  refine ctw_of (lv := [(0, Rf G 0), (1, I r), (2, I c), (3, Rf G 59)]) (by decide +kernel) (Nat.le_of_ble_eq_true rfl) rfl ?_
  refine r_aload_n dL_size_0 rfl rfl ?_
  refine r_iconst dL_size_1 ?_
  refine r_aload_n dL_size_2 rfl rfl ?_
  refine r_iload_n dL_size_3 rfl rfl ?_
  refine r_iload_n dL_size_4 rfl rfl ?_
  refine r_callX (hh := [(0, 10, 13, 13)]) (tX7_size G σ r c hci hrg) dL_size_5 svX7_size q389 sh0 (ci := 7) rfl rfl rfl ⟨Nat.le_of_ble_eq_true rfl, Nat.le_of_ble_eq_true rfl⟩ (Nat.le_of_ble_eq_true rfl) ⟨Nat.le_of_ble_eq_true rfl, Nat.le_of_ble_eq_true rfl⟩ ?_ ?_
  · rintro _ τ ⟨⟨rfl, hE⟩ | ⟨rfl, hE⟩, hd⟩
    · refine ⟨13, ⟨[], _, _, _, rfl, fun z h => absurd h List.not_mem_nil, rfl, Nat.succ_ne_zero _, q388, xs1, rfl⟩, fun q => ?_⟩
      refine r_astoreq (lv' := [(0, Rf G 0), (1, I r), (2, I c), (3, Rf G 59), (4, .ref q)]) dL_size_13 (Nat.le_of_ble_eq_true rfl) rfl ?_
      refine r_iconst dL_size_15 ?_
      exact r_iret dL_size_16 rfl (by rw [hP]; exact wk_ex hE (Or.inl rfl) hd)
    · exact absurd hE (by unfold oSize; (repeat' split) <;> simp)
  · rintro _ s ⟨h1, rfl, h3⟩
    refine r_i2lb dL_size_8 ?_
    refine r_last dL_size_9 sh59 (by omega) ?_
    refine r_goto (tgt := 17) dL_size_10 (by decide) ?_
    refine r_iconst dL_size_17 ?_
    exact r_iret dL_size_18 rfl (by rw [hP]; exact wk_ok ⟨h1, rfl, h3⟩ rfl)
set_option maxHeartbeats 1000000 in
set_option maxRecDepth 100000 in
theorem tL_put (G : GT) (σ : Sg) (r c v : Int) (hci : CI σ) (hrg : (-2147483648 ≤ r ∧ r ≤ 2147483647) ∧ (-2147483648 ≤ c ∧ c ≤ 2147483647) ∧ (-2147483648 ≤ v ∧ v ≤ 2147483647)) : CtW G mL_put [(0, 12, 15, 19), (0, 12, 19, 13)] 7 SH [Rf G 0, I r, I c, I v, Rf G 59] σ (WkP σ (oPut (absC σ) r c v)) := by
  obtain ⟨P, hP⟩ : ∃ P : Option Value → Sg → Prop, P = (WkP σ (oPut (absC σ) r c v)) := ⟨_, rfl⟩
  rw [← hP]
  refine ctw_of (lv := [(0, Rf G 0), (1, I r), (2, I c), (3, I v), (4, Rf G 59)]) (by decide +kernel) (Nat.le_of_ble_eq_true rfl) rfl ?_
  refine r_aload dL_put_0 rfl ?_
  refine r_iconst dL_put_2 ?_
  refine r_aload_n dL_put_3 rfl rfl ?_
  refine r_iload_n dL_put_4 rfl rfl ?_
  refine r_iload_n dL_put_5 rfl rfl ?_
  refine r_iload_n dL_put_6 rfl rfl ?_
  refine r_callX (hh := [(0, 12, 15, 19), (0, 12, 19, 13)]) (tX7_put G σ r c v hci hrg) dL_put_7 svX7_put q438 sh0 (ci := 7) rfl rfl rfl ⟨Nat.le_of_ble_eq_true rfl, Nat.le_of_ble_eq_true rfl⟩ (Nat.le_of_ble_eq_true rfl) ⟨Nat.le_of_ble_eq_true rfl, Nat.le_of_ble_eq_true rfl⟩ ?_ ?_
  · rintro _ τ ⟨⟨rfl, hE⟩ | ⟨rfl, hE⟩, hd⟩
    · refine ⟨15, ⟨[], _, _, _, rfl, fun z h => absurd h List.not_mem_nil, rfl, Nat.succ_ne_zero _, q437, xs2, rfl⟩, fun q => ?_⟩
      refine r_astoreq (lv' := [(0, Rf G 0), (1, I r), (2, I c), (3, I v), (4, Rf G 59), (5, .ref q)]) dL_put_15 (Nat.le_of_ble_eq_true rfl) rfl ?_
      refine r_iconst dL_put_17 ?_
      exact r_iret dL_put_18 rfl (by rw [hP]; exact wk_ex hE (Or.inl rfl) hd)
    · refine ⟨19, ⟨[_], _, _, _, rfl, fun z h => by rw [List.mem_singleton.mp h]; exact Or.inr ⟨Nat.succ_ne_zero _, _, q437, xc12⟩, rfl, Nat.succ_ne_zero _, q388, xs1, rfl⟩, fun q => ?_⟩
      refine r_astoreq (lv' := [(0, Rf G 0), (1, I r), (2, I c), (3, I v), (4, Rf G 59), (5, .ref q)]) dL_put_19 (Nat.le_of_ble_eq_true rfl) rfl ?_
      refine r_iconst dL_put_21 ?_
      exact r_iret dL_put_22 rfl (by rw [hP]; exact wk_ex hE (Or.inr rfl) hd)
  · rintro _ s ⟨h1, rfl, h3⟩
    refine r_i2lb dL_put_10 ?_
    refine r_last dL_put_11 sh59 (by omega) ?_
    refine r_goto (tgt := 23) dL_put_12 (by decide) ?_
    refine r_iconst dL_put_23 ?_
    exact r_iret dL_put_24 rfl (by rw [hP]; exact wk_ok ⟨h1, rfl, h3⟩ rfl)
set_option maxHeartbeats 1000000 in
set_option maxRecDepth 100000 in
theorem tL_points (G : GT) (σ : Sg) (a b c d : Int) (hci : CI σ) (hrg : (-2147483648 ≤ a ∧ a ≤ 2147483647) ∧ (-2147483648 ≤ b ∧ b ≤ 2147483647) ∧ (-2147483648 ≤ c ∧ c ≤ 2147483647) ∧ (-2147483648 ≤ d ∧ d ≤ 2147483647)) : CtW G mL_points [(0, 14, 17, 13)] 7 SH [Rf G 0, I a, I b, I c, I d, Rf G 59] σ (WkP σ (oPoints (absC σ) a b c d)) := by
  obtain ⟨P, hP⟩ : ∃ P : Option Value → Sg → Prop, P = (WkP σ (oPoints (absC σ) a b c d)) := ⟨_, rfl⟩
  rw [← hP]
  refine ctw_of (lv := [(0, Rf G 0), (1, I a), (2, I b), (3, I c), (4, I d), (5, Rf G 59)]) (by decide +kernel) (Nat.le_of_ble_eq_true rfl) rfl ?_
  refine r_aload dL_points_0 rfl ?_
  refine r_iconst dL_points_2 ?_
  refine r_aload_n dL_points_3 rfl rfl ?_
  refine r_iload_n dL_points_4 rfl rfl ?_
  refine r_iload_n dL_points_5 rfl rfl ?_
  refine r_iload_n dL_points_6 rfl rfl ?_
  refine r_iload dL_points_7 rfl ?_
  refine r_callX (hh := [(0, 14, 17, 13)]) (tX7_points G σ a b c d hci hrg) dL_points_9 svX7_points q458 sh0 (ci := 7) rfl rfl rfl ⟨Nat.le_of_ble_eq_true rfl, Nat.le_of_ble_eq_true rfl⟩ (Nat.le_of_ble_eq_true rfl) ⟨Nat.le_of_ble_eq_true rfl, Nat.le_of_ble_eq_true rfl⟩ ?_ ?_
  · rintro _ τ ⟨⟨rfl, hE⟩ | ⟨rfl, hE⟩, hd⟩
    · refine ⟨17, ⟨[], _, _, _, rfl, fun z h => absurd h List.not_mem_nil, rfl, Nat.succ_ne_zero _, q388, xs1, rfl⟩, fun q => ?_⟩
      refine r_astoreq (lv' := [(0, Rf G 0), (1, I a), (2, I b), (3, I c), (4, I d), (5, Rf G 59), (6, .ref q)]) dL_points_17 (Nat.le_of_ble_eq_true rfl) rfl ?_
      refine r_iconst dL_points_19 ?_
      exact r_iret dL_points_20 rfl (by rw [hP]; exact wk_ex hE (Or.inl rfl) hd)
    · exact absurd hE (by unfold oPoints; (repeat' split) <;> simp)
  · rintro _ s ⟨h1, rfl, h3⟩
    refine r_i2lb dL_points_12 ?_
    refine r_last dL_points_13 sh59 (by omega) ?_
    refine r_goto (tgt := 21) dL_points_14 (by decide) ?_
    refine r_iconst dL_points_21 ?_
    exact r_iret dL_points_22 rfl (by rw [hP]; exact wk_ok ⟨h1, rfl, h3⟩ rfl)
set_option maxHeartbeats 1000000 in
set_option maxRecDepth 100000 in
theorem tL_find (G : GT) (σ : Sg) (w : Int) (hci : CI σ) (hrg : (-2147483648 ≤ w ∧ w ≤ 2147483647)) : CtW G mL_find [(0, 9, 12, 13), (0, 9, 15, 29)] 17 SH [Rf G 0, I w, Rf G 59] σ (WkP σ (oFind (absC σ) w)) := by
  obtain ⟨P, hP⟩ : ∃ P : Option Value → Sg → Prop, P = (WkP σ (oFind (absC σ) w)) := ⟨_, rfl⟩
  rw [← hP]
  refine ctw_of (lv := [(0, Rf G 0), (1, I w), (2, Rf G 59)]) (by decide +kernel) (Nat.le_of_ble_eq_true rfl) rfl ?_
  refine r_aload_n dL_find_0 rfl rfl ?_
  refine r_iconst dL_find_1 ?_
  refine r_aload_n dL_find_2 rfl rfl ?_
  refine r_iload_n dL_find_3 rfl rfl ?_
  refine r_callX (hh := [(0, 9, 12, 13), (0, 9, 15, 29)]) (tX7_find G σ w hci hrg) dL_find_4 svX7_find q467 sh0 (ci := 7) rfl rfl rfl ⟨Nat.le_of_ble_eq_true rfl, Nat.le_of_ble_eq_true rfl⟩ (Nat.le_of_ble_eq_true rfl) ⟨Nat.le_of_ble_eq_true rfl, Nat.le_of_ble_eq_true rfl⟩ ?_ ?_
  · rintro _ τ ⟨⟨rfl, hE⟩ | ⟨rfl, hE⟩, hd⟩
    · refine ⟨12, ⟨[], _, _, _, rfl, fun z h => absurd h List.not_mem_nil, rfl, Nat.succ_ne_zero _, q388, xs1, rfl⟩, fun q => ?_⟩
      refine r_astoreq_n (lv' := [(0, Rf G 0), (1, I w), (2, Rf G 59), (3, .ref q)]) dL_find_12 rfl (Nat.le_of_ble_eq_true rfl) rfl ?_
      refine r_iconst dL_find_13 ?_
      exact r_iret dL_find_14 rfl (by rw [hP]; exact wk_ex hE (Or.inl rfl) hd)
    · refine ⟨15, ⟨[_], _, _, _, rfl, fun z h => by rw [List.mem_singleton.mp h]; exact Or.inr ⟨Nat.succ_ne_zero _, _, q388, xc31⟩, rfl, Nat.succ_ne_zero _, q466, xs3, rfl⟩, fun q => ?_⟩
      refine r_astoreq_n (lv' := [(0, Rf G 0), (1, I w), (2, Rf G 59), (3, .ref q)]) dL_find_15 rfl (Nat.le_of_ble_eq_true rfl) rfl ?_
      refine r_iconst dL_find_16 ?_
      exact r_iret dL_find_17 rfl (by rw [hP]; exact wk_ex hE (Or.inr rfl) hd)
  · rintro _ s ⟨h1, rfl, h3⟩
    refine r_i2lb dL_find_7 ?_
    refine r_last dL_find_8 sh59 (by omega) ?_
    refine r_goto (tgt := 18) dL_find_9 (by decide) ?_
    refine r_iconst dL_find_18 ?_
    exact r_iret dL_find_19 rfl (by rw [hP]; exact wk_ok ⟨h1, rfl, h3⟩ rfl)
set_option maxHeartbeats 1000000 in
set_option maxRecDepth 100000 in
theorem tL_weigh (G : GT) (σ : Sg) (v : Int) (hci : CI σ) (hrg : (-2147483648 ≤ v ∧ v ≤ 2147483647)) : CtW G mL_weigh [(0, 9, 12, 13), (0, 9, 15, 29)] 7 SH [Rf G 0, I v, Rf G 59] σ (WkP σ (oWeigh (absC σ) v)) := by
  obtain ⟨P, hP⟩ : ∃ P : Option Value → Sg → Prop, P = (WkP σ (oWeigh (absC σ) v)) := ⟨_, rfl⟩
  rw [← hP]
  refine ctw_of (lv := [(0, Rf G 0), (1, I v), (2, Rf G 59)]) (by decide +kernel) (Nat.le_of_ble_eq_true rfl) rfl ?_
  refine r_aload_n dL_weigh_0 rfl rfl ?_
  refine r_iconst dL_weigh_1 ?_
  refine r_aload_n dL_weigh_2 rfl rfl ?_
  refine r_iload_n dL_weigh_3 rfl rfl ?_
  refine r_callX (hh := [(0, 9, 12, 13), (0, 9, 15, 29)]) (tX7_weigh G σ v hci hrg) dL_weigh_4 svX7_weigh q488 sh0 (ci := 7) rfl rfl rfl ⟨Nat.le_of_ble_eq_true rfl, Nat.le_of_ble_eq_true rfl⟩ (Nat.le_of_ble_eq_true rfl) ⟨Nat.le_of_ble_eq_true rfl, Nat.le_of_ble_eq_true rfl⟩ ?_ ?_
  · rintro _ τ ⟨⟨rfl, hE⟩ | ⟨rfl, hE⟩, hd⟩
    · refine ⟨12, ⟨[], _, _, _, rfl, fun z h => absurd h List.not_mem_nil, rfl, Nat.succ_ne_zero _, q388, xs1, rfl⟩, fun q => ?_⟩
      refine r_astoreq_n (lv' := [(0, Rf G 0), (1, I v), (2, Rf G 59), (3, .ref q)]) dL_weigh_12 rfl (Nat.le_of_ble_eq_true rfl) rfl ?_
      refine r_iconst dL_weigh_13 ?_
      exact r_iret dL_weigh_14 rfl (by rw [hP]; exact wk_ex hE (Or.inl rfl) hd)
    · refine ⟨15, ⟨[_], _, _, _, rfl, fun z h => by rw [List.mem_singleton.mp h]; exact Or.inr ⟨Nat.succ_ne_zero _, _, q388, xc31⟩, rfl, Nat.succ_ne_zero _, q466, xs3, rfl⟩, fun q => ?_⟩
      refine r_astoreq_n (lv' := [(0, Rf G 0), (1, I v), (2, Rf G 59), (3, .ref q)]) dL_weigh_15 rfl (Nat.le_of_ble_eq_true rfl) rfl ?_
      refine r_iconst dL_weigh_16 ?_
      exact r_iret dL_weigh_17 rfl (by rw [hP]; exact wk_ex hE (Or.inr rfl) hd)
  · rintro _ s ⟨h1, rfl, h3⟩
    refine r_i2lb dL_weigh_7 ?_
    refine r_last dL_weigh_8 sh59 (by omega) ?_
    refine r_goto (tgt := 18) dL_weigh_9 (by decide) ?_
    refine r_iconst dL_weigh_18 ?_
    exact r_iret dL_weigh_19 rfl (by rw [hP]; exact wk_ok ⟨h1, rfl, h3⟩ rfl)
set_option maxHeartbeats 1000000 in
set_option maxRecDepth 100000 in
theorem tL_unweigh (G : GT) (σ : Sg)  (hci : CI σ) : CtW G mL_unweigh [(0, 8, 11, 29)] 7 SH [Rf G 0, Rf G 59] σ (WkP σ (oUnweigh (absC σ))) := by
  obtain ⟨P, hP⟩ : ∃ P : Option Value → Sg → Prop, P = (WkP σ (oUnweigh (absC σ))) := ⟨_, rfl⟩
  rw [← hP]
  refine ctw_of (lv := [(0, Rf G 0), (1, Rf G 59)]) (by decide +kernel) (Nat.le_of_ble_eq_true rfl) rfl ?_
  refine r_aload_n dL_unweigh_0 rfl rfl ?_
  refine r_iconst dL_unweigh_1 ?_
  refine r_aload_n dL_unweigh_2 rfl rfl ?_
  refine r_callX (hh := [(0, 8, 11, 29)]) (tX7_unweigh G σ hci) dL_unweigh_3 svX7_unweigh q499 sh0 (ci := 7) rfl rfl rfl ⟨Nat.le_of_ble_eq_true rfl, Nat.le_of_ble_eq_true rfl⟩ (Nat.le_of_ble_eq_true rfl) ⟨Nat.le_of_ble_eq_true rfl, Nat.le_of_ble_eq_true rfl⟩ ?_ ?_
  · rintro _ τ ⟨⟨rfl, hE⟩ | ⟨rfl, hE⟩, hd⟩
    · refine ⟨11, ⟨[], _, _, _, rfl, fun z h => absurd h List.not_mem_nil, rfl, Nat.succ_ne_zero _, q466, xs3, rfl⟩, fun q => ?_⟩
      refine r_astoreq_n (lv' := [(0, Rf G 0), (1, Rf G 59), (2, .ref q)]) dL_unweigh_11 rfl (Nat.le_of_ble_eq_true rfl) rfl ?_
      refine r_iconst dL_unweigh_12 ?_
      exact r_iret dL_unweigh_13 rfl (by rw [hP]; exact wk_ex hE (Or.inl rfl) hd)
    · exact absurd hE (by unfold oUnweigh; (repeat' split) <;> simp)
  · rintro _ s ⟨h1, rfl, h3⟩
    refine r_i2lb dL_unweigh_6 ?_
    refine r_last dL_unweigh_7 sh59 (by omega) ?_
    refine r_goto (tgt := 14) dL_unweigh_8 (by decide) ?_
    refine r_iconst dL_unweigh_14 ?_
    exact r_iret dL_unweigh_15 rfl (by rw [hP]; exact wk_ok ⟨h1, rfl, h3⟩ rfl)
set_option maxHeartbeats 1000000 in
set_option maxRecDepth 100000 in
theorem tL_append (G : GT) (σ : Sg) (c : Int) (hci : CI σ) (hrg : (-2147483648 ≤ c ∧ c ≤ 2147483647)) : CtW G mL_append [(0, 9, 12, 13), (0, 9, 15, 29)] 7 SH [Rf G 0, I c, Rf G 59] σ (WkP σ (oAppend (absC σ) c)) := by
  obtain ⟨P, hP⟩ : ∃ P : Option Value → Sg → Prop, P = (WkP σ (oAppend (absC σ) c)) := ⟨_, rfl⟩
  rw [← hP]
  refine ctw_of (lv := [(0, Rf G 0), (1, I c), (2, Rf G 59)]) (by decide +kernel) (Nat.le_of_ble_eq_true rfl) rfl ?_
  refine r_aload_n dL_append_0 rfl rfl ?_
  refine r_iconst dL_append_1 ?_
  refine r_aload_n dL_append_2 rfl rfl ?_
  refine r_iload_n dL_append_3 rfl rfl ?_
  refine r_callX (hh := [(0, 9, 12, 13), (0, 9, 15, 29)]) (tX7_append G σ c hci hrg) dL_append_4 svX7_append q506 sh0 (ci := 7) rfl rfl rfl ⟨Nat.le_of_ble_eq_true rfl, Nat.le_of_ble_eq_true rfl⟩ (Nat.le_of_ble_eq_true rfl) ⟨Nat.le_of_ble_eq_true rfl, Nat.le_of_ble_eq_true rfl⟩ ?_ ?_
  · rintro _ τ ⟨⟨rfl, hE⟩ | ⟨rfl, hE⟩, hd⟩
    · refine ⟨12, ⟨[], _, _, _, rfl, fun z h => absurd h List.not_mem_nil, rfl, Nat.succ_ne_zero _, q388, xs1, rfl⟩, fun q => ?_⟩
      refine r_astoreq_n (lv' := [(0, Rf G 0), (1, I c), (2, Rf G 59), (3, .ref q)]) dL_append_12 rfl (Nat.le_of_ble_eq_true rfl) rfl ?_
      refine r_iconst dL_append_13 ?_
      exact r_iret dL_append_14 rfl (by rw [hP]; exact wk_ex hE (Or.inl rfl) hd)
    · refine ⟨15, ⟨[_], _, _, _, rfl, fun z h => by rw [List.mem_singleton.mp h]; exact Or.inr ⟨Nat.succ_ne_zero _, _, q388, xc31⟩, rfl, Nat.succ_ne_zero _, q466, xs3, rfl⟩, fun q => ?_⟩
      refine r_astoreq_n (lv' := [(0, Rf G 0), (1, I c), (2, Rf G 59), (3, .ref q)]) dL_append_15 rfl (Nat.le_of_ble_eq_true rfl) rfl ?_
      refine r_iconst dL_append_16 ?_
      exact r_iret dL_append_17 rfl (by rw [hP]; exact wk_ex hE (Or.inr rfl) hd)
  · rintro _ s ⟨h1, rfl, h3⟩
    refine r_i2lb dL_append_7 ?_
    refine r_last dL_append_8 sh59 (by omega) ?_
    refine r_goto (tgt := 18) dL_append_9 (by decide) ?_
    refine r_iconst dL_append_18 ?_
    exact r_iret dL_append_19 rfl (by rw [hP]; exact wk_ok ⟨h1, rfl, h3⟩ rfl)
set_option maxHeartbeats 1000000 in
set_option maxRecDepth 100000 in
theorem tL_load (G : GT) (σ : Sg)  (hci : CI σ) : CtW G mL_load [(0, 8, 11, 13)] 7 SH [Rf G 0, Rf G 59] σ (WkP σ (oLoad (absC σ))) := by
  obtain ⟨P, hP⟩ : ∃ P : Option Value → Sg → Prop, P = (WkP σ (oLoad (absC σ))) := ⟨_, rfl⟩
  rw [← hP]
  refine ctw_of (lv := [(0, Rf G 0), (1, Rf G 59)]) (by decide +kernel) (Nat.le_of_ble_eq_true rfl) rfl ?_
  refine r_aload_n dL_load_0 rfl rfl ?_
  refine r_iconst dL_load_1 ?_
  refine r_aload_n dL_load_2 rfl rfl ?_
  refine r_callX (hh := [(0, 8, 11, 13)]) (tX7_load G σ hci) dL_load_3 svX7_load q517 sh0 (ci := 7) rfl rfl rfl ⟨Nat.le_of_ble_eq_true rfl, Nat.le_of_ble_eq_true rfl⟩ (Nat.le_of_ble_eq_true rfl) ⟨Nat.le_of_ble_eq_true rfl, Nat.le_of_ble_eq_true rfl⟩ ?_ ?_
  · rintro _ τ ⟨⟨rfl, hE⟩ | ⟨rfl, hE⟩, hd⟩
    · refine ⟨11, ⟨[], _, _, _, rfl, fun z h => absurd h List.not_mem_nil, rfl, Nat.succ_ne_zero _, q388, xs1, rfl⟩, fun q => ?_⟩
      refine r_astoreq_n (lv' := [(0, Rf G 0), (1, Rf G 59), (2, .ref q)]) dL_load_11 rfl (Nat.le_of_ble_eq_true rfl) rfl ?_
      refine r_iconst dL_load_12 ?_
      exact r_iret dL_load_13 rfl (by rw [hP]; exact wk_ex hE (Or.inl rfl) hd)
    · exact absurd hE (by unfold oLoad; (repeat' split) <;> simp)
  · rintro _ s ⟨h1, rfl, h3⟩
    refine r_i2lb dL_load_6 ?_
    refine r_last dL_load_7 sh59 (by omega) ?_
    refine r_goto (tgt := 14) dL_load_8 (by decide) ?_
    refine r_iconst dL_load_14 ?_
    exact r_iret dL_load_15 rfl (by rw [hP]; exact wk_ok ⟨h1, rfl, h3⟩ rfl)
set_option maxHeartbeats 1000000 in
set_option maxRecDepth 100000 in
theorem tL_keep (G : GT) (σ : Sg) (k : Int) (hci : CI σ) (hrg : (-2147483648 ≤ k ∧ k ≤ 2147483647)) : CtW G mL_keep [(0, 9, 12, 13)] 7 SH [Rf G 0, I k, Rf G 59] σ (WkP σ (oKeep (absC σ) k)) := by
  obtain ⟨P, hP⟩ : ∃ P : Option Value → Sg → Prop, P = (WkP σ (oKeep (absC σ) k)) := ⟨_, rfl⟩
  rw [← hP]
  refine ctw_of (lv := [(0, Rf G 0), (1, I k), (2, Rf G 59)]) (by decide +kernel) (Nat.le_of_ble_eq_true rfl) rfl ?_
  refine r_aload_n dL_keep_0 rfl rfl ?_
  refine r_iconst dL_keep_1 ?_
  refine r_aload_n dL_keep_2 rfl rfl ?_
  refine r_iload_n dL_keep_3 rfl rfl ?_
  refine r_callX (hh := [(0, 9, 12, 13)]) (tX7_keep G σ k hci hrg) dL_keep_4 svX7_keep q541 sh0 (ci := 7) rfl rfl rfl ⟨Nat.le_of_ble_eq_true rfl, Nat.le_of_ble_eq_true rfl⟩ (Nat.le_of_ble_eq_true rfl) ⟨Nat.le_of_ble_eq_true rfl, Nat.le_of_ble_eq_true rfl⟩ ?_ ?_
  · rintro _ τ ⟨⟨rfl, hE⟩ | ⟨rfl, hE⟩, hd⟩
    · refine ⟨12, ⟨[], _, _, _, rfl, fun z h => absurd h List.not_mem_nil, rfl, Nat.succ_ne_zero _, q388, xs1, rfl⟩, fun q => ?_⟩
      refine r_astoreq_n (lv' := [(0, Rf G 0), (1, I k), (2, Rf G 59), (3, .ref q)]) dL_keep_12 rfl (Nat.le_of_ble_eq_true rfl) rfl ?_
      refine r_iconst dL_keep_13 ?_
      exact r_iret dL_keep_14 rfl (by rw [hP]; exact wk_ex hE (Or.inl rfl) hd)
    · exact absurd hE (by unfold oKeep; (repeat' split) <;> simp)
  · rintro _ s ⟨h1, rfl, h3⟩
    refine r_i2lb dL_keep_7 ?_
    refine r_last dL_keep_8 sh59 (by omega) ?_
    refine r_goto (tgt := 15) dL_keep_9 (by decide) ?_
    refine r_iconst dL_keep_15 ?_
    exact r_iret dL_keep_16 rfl (by rw [hP]; exact wk_ok ⟨h1, rfl, h3⟩ rfl)
set_option maxHeartbeats 1000000 in
set_option maxRecDepth 100000 in
theorem tL_goBack (G : GT) (σ : Sg) (k : Int) (hci : CI σ) (hrg : (-2147483648 ≤ k ∧ k ≤ 2147483647)) : CtW G mL_goBack [(0, 9, 12, 13), (0, 9, 15, 29)] 7 SH [Rf G 0, I k, Rf G 59] σ (WkP σ (oBack (absC σ) k)) := by
  obtain ⟨P, hP⟩ : ∃ P : Option Value → Sg → Prop, P = (WkP σ (oBack (absC σ) k)) := ⟨_, rfl⟩
  rw [← hP]
  refine ctw_of (lv := [(0, Rf G 0), (1, I k), (2, Rf G 59)]) (by decide +kernel) (Nat.le_of_ble_eq_true rfl) rfl ?_
  refine r_aload_n dL_goBack_0 rfl rfl ?_
  refine r_iconst dL_goBack_1 ?_
  refine r_aload_n dL_goBack_2 rfl rfl ?_
  refine r_iload_n dL_goBack_3 rfl rfl ?_
  refine r_callX (hh := [(0, 9, 12, 13), (0, 9, 15, 29)]) (tX7_goBack G σ k hci hrg) dL_goBack_4 svX7_goBack q556 sh0 (ci := 7) rfl rfl rfl ⟨Nat.le_of_ble_eq_true rfl, Nat.le_of_ble_eq_true rfl⟩ (Nat.le_of_ble_eq_true rfl) ⟨Nat.le_of_ble_eq_true rfl, Nat.le_of_ble_eq_true rfl⟩ ?_ ?_
  · rintro _ τ ⟨⟨rfl, hE⟩ | ⟨rfl, hE⟩, hd⟩
    · refine ⟨12, ⟨[], _, _, _, rfl, fun z h => absurd h List.not_mem_nil, rfl, Nat.succ_ne_zero _, q388, xs1, rfl⟩, fun q => ?_⟩
      refine r_astoreq_n (lv' := [(0, Rf G 0), (1, I k), (2, Rf G 59), (3, .ref q)]) dL_goBack_12 rfl (Nat.le_of_ble_eq_true rfl) rfl ?_
      refine r_iconst dL_goBack_13 ?_
      exact r_iret dL_goBack_14 rfl (by rw [hP]; exact wk_ex hE (Or.inl rfl) hd)
    · refine ⟨15, ⟨[_], _, _, _, rfl, fun z h => by rw [List.mem_singleton.mp h]; exact Or.inr ⟨Nat.succ_ne_zero _, _, q388, xc31⟩, rfl, Nat.succ_ne_zero _, q466, xs3, rfl⟩, fun q => ?_⟩
      refine r_astoreq_n (lv' := [(0, Rf G 0), (1, I k), (2, Rf G 59), (3, .ref q)]) dL_goBack_15 rfl (Nat.le_of_ble_eq_true rfl) rfl ?_
      refine r_iconst dL_goBack_16 ?_
      exact r_iret dL_goBack_17 rfl (by rw [hP]; exact wk_ex hE (Or.inr rfl) hd)
  · rintro _ s ⟨h1, rfl, h3⟩
    refine r_i2lb dL_goBack_7 ?_
    refine r_last dL_goBack_8 sh59 (by omega) ?_
    refine r_goto (tgt := 18) dL_goBack_9 (by decide) ?_
    refine r_iconst dL_goBack_18 ?_
    exact r_iret dL_goBack_19 rfl (by rw [hP]; exact wk_ok ⟨h1, rfl, h3⟩ rfl)
set_option maxHeartbeats 1000000 in
set_option maxRecDepth 100000 in
theorem tL_undo (G : GT) (σ : Sg)  (hci : CI σ) : CtW G mL_undo [(0, 8, 11, 29)] 7 SH [Rf G 0, Rf G 59] σ (WkP σ (oUndo (absC σ))) := by
  obtain ⟨P, hP⟩ : ∃ P : Option Value → Sg → Prop, P = (WkP σ (oUndo (absC σ))) := ⟨_, rfl⟩
  rw [← hP]
  refine ctw_of (lv := [(0, Rf G 0), (1, Rf G 59)]) (by decide +kernel) (Nat.le_of_ble_eq_true rfl) rfl ?_
  refine r_aload_n dL_undo_0 rfl rfl ?_
  refine r_iconst dL_undo_1 ?_
  refine r_aload_n dL_undo_2 rfl rfl ?_
  refine r_callX (hh := [(0, 8, 11, 29)]) (tX7_undo G σ hci) dL_undo_3 svX7_undo q564 sh0 (ci := 7) rfl rfl rfl ⟨Nat.le_of_ble_eq_true rfl, Nat.le_of_ble_eq_true rfl⟩ (Nat.le_of_ble_eq_true rfl) ⟨Nat.le_of_ble_eq_true rfl, Nat.le_of_ble_eq_true rfl⟩ ?_ ?_
  · rintro _ τ ⟨⟨rfl, hE⟩ | ⟨rfl, hE⟩, hd⟩
    · refine ⟨11, ⟨[], _, _, _, rfl, fun z h => absurd h List.not_mem_nil, rfl, Nat.succ_ne_zero _, q466, xs3, rfl⟩, fun q => ?_⟩
      refine r_astoreq_n (lv' := [(0, Rf G 0), (1, Rf G 59), (2, .ref q)]) dL_undo_11 rfl (Nat.le_of_ble_eq_true rfl) rfl ?_
      refine r_iconst dL_undo_12 ?_
      exact r_iret dL_undo_13 rfl (by rw [hP]; exact wk_ex hE (Or.inl rfl) hd)
    · exact absurd hE (by unfold oUndo; (repeat' split) <;> simp)
  · rintro _ s ⟨h1, rfl, h3⟩
    refine r_i2lb dL_undo_6 ?_
    refine r_last dL_undo_7 sh59 (by omega) ?_
    refine r_goto (tgt := 14) dL_undo_8 (by decide) ?_
    refine r_iconst dL_undo_14 ?_
    exact r_iret dL_undo_15 rfl (by rw [hP]; exact wk_ok ⟨h1, rfl, h3⟩ rfl)
set_option maxHeartbeats 1000000 in
set_option maxRecDepth 100000 in
theorem tL_cell (G : GT) (σ : Sg) (r c : Int) (hci : CI σ) (hrg : (-2147483648 ≤ r ∧ r ≤ 2147483647) ∧ (-2147483648 ≤ c ∧ c ≤ 2147483647)) : CtW G mL_cell [(0, 10, 13, 19)] 7 SH [Rf G 0, I r, I c, Rf G 59] σ (WkP σ (oCell (absC σ) r c)) := by
  obtain ⟨P, hP⟩ : ∃ P : Option Value → Sg → Prop, P = (WkP σ (oCell (absC σ) r c)) := ⟨_, rfl⟩
  rw [← hP]
  refine ctw_of (lv := [(0, Rf G 0), (1, I r), (2, I c), (3, Rf G 59)]) (by decide +kernel) (Nat.le_of_ble_eq_true rfl) rfl ?_
  refine r_aload_n dL_cell_0 rfl rfl ?_
  refine r_iconst dL_cell_1 ?_
  refine r_aload_n dL_cell_2 rfl rfl ?_
  refine r_iload_n dL_cell_3 rfl rfl ?_
  refine r_iload_n dL_cell_4 rfl rfl ?_
  refine r_callX (hh := [(0, 10, 13, 19)]) (tX7_cell G σ r c hci hrg) dL_cell_5 svX7_cell q575 sh0 (ci := 7) rfl rfl rfl ⟨Nat.le_of_ble_eq_true rfl, Nat.le_of_ble_eq_true rfl⟩ (Nat.le_of_ble_eq_true rfl) ⟨Nat.le_of_ble_eq_true rfl, Nat.le_of_ble_eq_true rfl⟩ ?_ ?_
  · rintro _ τ ⟨⟨rfl, hE⟩ | ⟨rfl, hE⟩, hd⟩
    · refine ⟨13, ⟨[], _, _, _, rfl, fun z h => absurd h List.not_mem_nil, rfl, Nat.succ_ne_zero _, q437, xs2, rfl⟩, fun q => ?_⟩
      refine r_astoreq (lv' := [(0, Rf G 0), (1, I r), (2, I c), (3, Rf G 59), (4, .ref q)]) dL_cell_13 (Nat.le_of_ble_eq_true rfl) rfl ?_
      refine r_iconst dL_cell_15 ?_
      exact r_iret dL_cell_16 rfl (by rw [hP]; exact wk_ex hE (Or.inl rfl) hd)
    · exact absurd hE (by unfold oCell; (repeat' split) <;> simp)
  · rintro _ s ⟨h1, rfl, h3⟩
    refine r_i2lb dL_cell_8 ?_
    refine r_last dL_cell_9 sh59 (by omega) ?_
    refine r_goto (tgt := 17) dL_cell_10 (by decide) ?_
    refine r_iconst dL_cell_17 ?_
    exact r_iret dL_cell_18 rfl (by rw [hP]; exact wk_ok ⟨h1, rfl, h3⟩ rfl)
set_option maxHeartbeats 1000000 in
set_option maxRecDepth 100000 in
theorem tL_place (G : GT) (σ : Sg) (r w : Int) (hci : CI σ) (hrg : (-2147483648 ≤ r ∧ r ≤ 2147483647) ∧ (-2147483648 ≤ w ∧ w ≤ 2147483647)) : CtW G mL_place [(0, 10, 13, 19), (0, 10, 17, 13)] 17 SH [Rf G 0, I r, I w, Rf G 59] σ (WkP σ (oPlace (absC σ) r w)) := by
  obtain ⟨P, hP⟩ : ∃ P : Option Value → Sg → Prop, P = (WkP σ (oPlace (absC σ) r w)) := ⟨_, rfl⟩
  rw [← hP]
  refine ctw_of (lv := [(0, Rf G 0), (1, I r), (2, I w), (3, Rf G 59)]) (by decide +kernel) (Nat.le_of_ble_eq_true rfl) rfl ?_
  refine r_aload_n dL_place_0 rfl rfl ?_
  refine r_iconst dL_place_1 ?_
  refine r_aload_n dL_place_2 rfl rfl ?_
  refine r_iload_n dL_place_3 rfl rfl ?_
  refine r_iload_n dL_place_4 rfl rfl ?_
  refine r_callX (hh := [(0, 10, 13, 19), (0, 10, 17, 13)]) (tX7_place G σ r w hci hrg) dL_place_5 svX7_place q582 sh0 (ci := 7) rfl rfl rfl ⟨Nat.le_of_ble_eq_true rfl, Nat.le_of_ble_eq_true rfl⟩ (Nat.le_of_ble_eq_true rfl) ⟨Nat.le_of_ble_eq_true rfl, Nat.le_of_ble_eq_true rfl⟩ ?_ ?_
  · rintro _ τ ⟨⟨rfl, hE⟩ | ⟨rfl, hE⟩, hd⟩
    · refine ⟨13, ⟨[], _, _, _, rfl, fun z h => absurd h List.not_mem_nil, rfl, Nat.succ_ne_zero _, q437, xs2, rfl⟩, fun q => ?_⟩
      refine r_astoreq (lv' := [(0, Rf G 0), (1, I r), (2, I w), (3, Rf G 59), (4, .ref q)]) dL_place_13 (Nat.le_of_ble_eq_true rfl) rfl ?_
      refine r_iconst dL_place_15 ?_
      exact r_iret dL_place_16 rfl (by rw [hP]; exact wk_ex hE (Or.inl rfl) hd)
    · refine ⟨17, ⟨[_], _, _, _, rfl, fun z h => by rw [List.mem_singleton.mp h]; exact Or.inr ⟨Nat.succ_ne_zero _, _, q437, xc12⟩, rfl, Nat.succ_ne_zero _, q388, xs1, rfl⟩, fun q => ?_⟩
      refine r_astoreq (lv' := [(0, Rf G 0), (1, I r), (2, I w), (3, Rf G 59), (4, .ref q)]) dL_place_17 (Nat.le_of_ble_eq_true rfl) rfl ?_
      refine r_iconst dL_place_19 ?_
      exact r_iret dL_place_20 rfl (by rw [hP]; exact wk_ex hE (Or.inr rfl) hd)
  · rintro _ s ⟨h1, rfl, h3⟩
    refine r_i2lb dL_place_8 ?_
    refine r_last dL_place_9 sh59 (by omega) ?_
    refine r_goto (tgt := 21) dL_place_10 (by decide) ?_
    refine r_iconst dL_place_21 ?_
    exact r_iret dL_place_22 rfl (by rw [hP]; exact wk_ok ⟨h1, rfl, h3⟩ rfl)
set_option maxHeartbeats 1000000 in
set_option maxRecDepth 100000 in
theorem tL_looks (G : GT) (σ : Sg) (w : Int) (hci : CI σ) (hrg : (-2147483648 ≤ w ∧ w ≤ 2147483647)) : CtW G mL_looks [(0, 9, 12, 13)] 17 SH [Rf G 0, I w, Rf G 59] σ (WkP σ (oLooks (absC σ) w)) := by
  obtain ⟨P, hP⟩ : ∃ P : Option Value → Sg → Prop, P = (WkP σ (oLooks (absC σ) w)) := ⟨_, rfl⟩
  rw [← hP]
  refine ctw_of (lv := [(0, Rf G 0), (1, I w), (2, Rf G 59)]) (by decide +kernel) (Nat.le_of_ble_eq_true rfl) rfl ?_
  refine r_aload_n dL_looks_0 rfl rfl ?_
  refine r_iconst dL_looks_1 ?_
  refine r_aload_n dL_looks_2 rfl rfl ?_
  refine r_iload_n dL_looks_3 rfl rfl ?_
  refine r_callX (hh := [(0, 9, 12, 13)]) (tX7_looks G σ w hci hrg) dL_looks_4 svX7_looks q589 sh0 (ci := 7) rfl rfl rfl ⟨Nat.le_of_ble_eq_true rfl, Nat.le_of_ble_eq_true rfl⟩ (Nat.le_of_ble_eq_true rfl) ⟨Nat.le_of_ble_eq_true rfl, Nat.le_of_ble_eq_true rfl⟩ ?_ ?_
  · rintro _ τ ⟨⟨rfl, hE⟩ | ⟨rfl, hE⟩, hd⟩
    · refine ⟨12, ⟨[], _, _, _, rfl, fun z h => absurd h List.not_mem_nil, rfl, Nat.succ_ne_zero _, q388, xs1, rfl⟩, fun q => ?_⟩
      refine r_astoreq_n (lv' := [(0, Rf G 0), (1, I w), (2, Rf G 59), (3, .ref q)]) dL_looks_12 rfl (Nat.le_of_ble_eq_true rfl) rfl ?_
      refine r_iconst dL_looks_13 ?_
      exact r_iret dL_looks_14 rfl (by rw [hP]; exact wk_ex hE (Or.inl rfl) hd)
    · exact absurd hE (by unfold oLooks; (repeat' split) <;> simp)
  · rintro _ s ⟨h1, rfl, h3⟩
    refine r_i2lb dL_looks_7 ?_
    refine r_last dL_looks_8 sh59 (by omega) ?_
    refine r_goto (tgt := 15) dL_looks_9 (by decide) ?_
    refine r_iconst dL_looks_15 ?_
    exact r_iret dL_looks_16 rfl (by rw [hP]; exact wk_ok ⟨h1, rfl, h3⟩ rfl)
set_option maxHeartbeats 1000000 in
set_option maxRecDepth 100000 in
theorem tL_witness (G : GT) (σ : Sg) (k : Int) (hci : CI σ) (hrg : (-2147483648 ≤ k ∧ k ≤ 2147483647)) : CtW G mL_witness [(0, 9, 12, 13)] 7 SH [Rf G 0, I k, Rf G 59] σ (WkP σ (oWitness (absC σ) k)) := by
  obtain ⟨P, hP⟩ : ∃ P : Option Value → Sg → Prop, P = (WkP σ (oWitness (absC σ) k)) := ⟨_, rfl⟩
  rw [← hP]
  refine ctw_of (lv := [(0, Rf G 0), (1, I k), (2, Rf G 59)]) (by decide +kernel) (Nat.le_of_ble_eq_true rfl) rfl ?_
  refine r_aload_n dL_witness_0 rfl rfl ?_
  refine r_iconst dL_witness_1 ?_
  refine r_aload_n dL_witness_2 rfl rfl ?_
  refine r_iload_n dL_witness_3 rfl rfl ?_
  refine r_callX (hh := [(0, 9, 12, 13)]) (tX7_witness G σ k hci hrg) dL_witness_4 svX7_witness q596 sh0 (ci := 7) rfl rfl rfl ⟨Nat.le_of_ble_eq_true rfl, Nat.le_of_ble_eq_true rfl⟩ (Nat.le_of_ble_eq_true rfl) ⟨Nat.le_of_ble_eq_true rfl, Nat.le_of_ble_eq_true rfl⟩ ?_ ?_
  · rintro _ τ ⟨⟨rfl, hE⟩ | ⟨rfl, hE⟩, hd⟩
    · refine ⟨12, ⟨[], _, _, _, rfl, fun z h => absurd h List.not_mem_nil, rfl, Nat.succ_ne_zero _, q388, xs1, rfl⟩, fun q => ?_⟩
      refine r_astoreq_n (lv' := [(0, Rf G 0), (1, I k), (2, Rf G 59), (3, .ref q)]) dL_witness_12 rfl (Nat.le_of_ble_eq_true rfl) rfl ?_
      refine r_iconst dL_witness_13 ?_
      exact r_iret dL_witness_14 rfl (by rw [hP]; exact wk_ex hE (Or.inl rfl) hd)
    · exact absurd hE (by unfold oWitness; (repeat' split) <;> simp)
  · rintro _ s ⟨h1, rfl, h3⟩
    refine r_i2lb dL_witness_7 ?_
    refine r_last dL_witness_8 sh59 (by omega) ?_
    refine r_goto (tgt := 15) dL_witness_9 (by decide) ?_
    refine r_iconst dL_witness_15 ?_
    exact r_iret dL_witness_16 rfl (by rw [hP]; exact wk_ok ⟨h1, rfl, h3⟩ rfl)
set_option maxHeartbeats 1000000 in
set_option maxRecDepth 100000 in
theorem tL_count (G : GT) (σ : Sg) (k : Int) (hci : CI σ) (hrg : (-2147483648 ≤ k ∧ k ≤ 2147483647)) : CtW G mL_count [(0, 9, 12, 13)] 18 SH [Rf G 0, I k, Rf G 59] σ (WkP σ (oCount (absC σ) k)) := by
  obtain ⟨P, hP⟩ : ∃ P : Option Value → Sg → Prop, P = (WkP σ (oCount (absC σ) k)) := ⟨_, rfl⟩
  rw [← hP]
  refine ctw_of (lv := [(0, Rf G 0), (1, I k), (2, Rf G 59)]) (by decide +kernel) (Nat.le_of_ble_eq_true rfl) rfl ?_
  refine r_aload_n dL_count_0 rfl rfl ?_
  refine r_iconst dL_count_1 ?_
  refine r_aload_n dL_count_2 rfl rfl ?_
  refine r_iload_n dL_count_3 rfl rfl ?_
  refine r_callX (hh := [(0, 9, 12, 13)]) (tX7_count G σ k hci hrg) dL_count_4 svX7_count q603 sh0 (ci := 7) rfl rfl rfl ⟨Nat.le_of_ble_eq_true rfl, Nat.le_of_ble_eq_true rfl⟩ (Nat.le_of_ble_eq_true rfl) ⟨Nat.le_of_ble_eq_true rfl, Nat.le_of_ble_eq_true rfl⟩ ?_ ?_
  · rintro _ τ ⟨⟨rfl, hE⟩ | ⟨rfl, hE⟩, hd⟩
    · refine ⟨12, ⟨[], _, _, _, rfl, fun z h => absurd h List.not_mem_nil, rfl, Nat.succ_ne_zero _, q388, xs1, rfl⟩, fun q => ?_⟩
      refine r_astoreq_n (lv' := [(0, Rf G 0), (1, I k), (2, Rf G 59), (3, .ref q)]) dL_count_12 rfl (Nat.le_of_ble_eq_true rfl) rfl ?_
      refine r_iconst dL_count_13 ?_
      exact r_iret dL_count_14 rfl (by rw [hP]; exact wk_ex hE (Or.inl rfl) hd)
    · exact absurd hE (by unfold oCount; (repeat' split) <;> simp)
  · rintro _ s ⟨h1, rfl, h3⟩
    refine r_i2lb dL_count_7 ?_
    refine r_last dL_count_8 sh59 (by omega) ?_
    refine r_goto (tgt := 15) dL_count_9 (by decide) ?_
    refine r_iconst dL_count_15 ?_
    exact r_iret dL_count_16 rfl (by rw [hP]; exact wk_ok ⟨h1, rfl, h3⟩ rfl)
set_option maxHeartbeats 1000000 in
set_option maxRecDepth 100000 in
theorem tL_weight (G : GT) (σ : Sg) (i : Int) (hci : CI σ) (hrg : (-2147483648 ≤ i ∧ i ≤ 2147483647)) : CtW G mL_weight [(0, 9, 12, 19)] 7 SH [Rf G 0, I i, Rf G 59] σ (WkP σ (oWeight (absC σ) i)) := by
  obtain ⟨P, hP⟩ : ∃ P : Option Value → Sg → Prop, P = (WkP σ (oWeight (absC σ) i)) := ⟨_, rfl⟩
  rw [← hP]
  refine ctw_of (lv := [(0, Rf G 0), (1, I i), (2, Rf G 59)]) (by decide +kernel) (Nat.le_of_ble_eq_true rfl) rfl ?_
  refine r_aload_n dL_weight_0 rfl rfl ?_
  refine r_iconst dL_weight_1 ?_
  refine r_aload_n dL_weight_2 rfl rfl ?_
  refine r_iload_n dL_weight_3 rfl rfl ?_
  refine r_callX (hh := [(0, 9, 12, 19)]) (tX7_weight G σ i hci hrg) dL_weight_4 svX7_weight q610 sh0 (ci := 7) rfl rfl rfl ⟨Nat.le_of_ble_eq_true rfl, Nat.le_of_ble_eq_true rfl⟩ (Nat.le_of_ble_eq_true rfl) ⟨Nat.le_of_ble_eq_true rfl, Nat.le_of_ble_eq_true rfl⟩ ?_ ?_
  · rintro _ τ ⟨⟨rfl, hE⟩ | ⟨rfl, hE⟩, hd⟩
    · refine ⟨12, ⟨[], _, _, _, rfl, fun z h => absurd h List.not_mem_nil, rfl, Nat.succ_ne_zero _, q437, xs2, rfl⟩, fun q => ?_⟩
      refine r_astoreq_n (lv' := [(0, Rf G 0), (1, I i), (2, Rf G 59), (3, .ref q)]) dL_weight_12 rfl (Nat.le_of_ble_eq_true rfl) rfl ?_
      refine r_iconst dL_weight_13 ?_
      exact r_iret dL_weight_14 rfl (by rw [hP]; exact wk_ex hE (Or.inl rfl) hd)
    · exact absurd hE (by unfold oWeight; (repeat' split) <;> simp)
  · rintro _ s ⟨h1, rfl, h3⟩
    refine r_i2lb dL_weight_7 ?_
    refine r_last dL_weight_8 sh59 (by omega) ?_
    refine r_goto (tgt := 15) dL_weight_9 (by decide) ?_
    refine r_iconst dL_weight_15 ?_
    exact r_iret dL_weight_16 rfl (by rw [hP]; exact wk_ok ⟨h1, rfl, h3⟩ rfl)
set_option maxHeartbeats 1000000 in
set_option maxRecDepth 100000 in
theorem tL_cost (G : GT) (σ : Sg) (p k : Int) (hci : CI σ) (hrg : (-2147483648 ≤ p ∧ p ≤ 2147483647) ∧ (-2147483648 ≤ k ∧ k ≤ 2147483647)) : CtW G mL_cost [(0, 10, 13, 13)] 18 SH [Rf G 0, I p, I k, Rf G 59] σ (WkP σ (oCost (absC σ) p k)) := by
  obtain ⟨P, hP⟩ : ∃ P : Option Value → Sg → Prop, P = (WkP σ (oCost (absC σ) p k)) := ⟨_, rfl⟩
  rw [← hP]
  refine ctw_of (lv := [(0, Rf G 0), (1, I p), (2, I k), (3, Rf G 59)]) (by decide +kernel) (Nat.le_of_ble_eq_true rfl) rfl ?_
  refine r_aload_n dL_cost_0 rfl rfl ?_
  refine r_iconst dL_cost_1 ?_
  refine r_aload_n dL_cost_2 rfl rfl ?_
  refine r_iload_n dL_cost_3 rfl rfl ?_
  refine r_iload_n dL_cost_4 rfl rfl ?_
  refine r_callX (hh := [(0, 10, 13, 13)]) (tX7_cost G σ p k hci hrg) dL_cost_5 svX7_cost q617 sh0 (ci := 7) rfl rfl rfl ⟨Nat.le_of_ble_eq_true rfl, Nat.le_of_ble_eq_true rfl⟩ (Nat.le_of_ble_eq_true rfl) ⟨Nat.le_of_ble_eq_true rfl, Nat.le_of_ble_eq_true rfl⟩ ?_ ?_
  · rintro _ τ ⟨⟨rfl, hE⟩ | ⟨rfl, hE⟩, hd⟩
    · refine ⟨13, ⟨[], _, _, _, rfl, fun z h => absurd h List.not_mem_nil, rfl, Nat.succ_ne_zero _, q388, xs1, rfl⟩, fun q => ?_⟩
      refine r_astoreq (lv' := [(0, Rf G 0), (1, I p), (2, I k), (3, Rf G 59), (4, .ref q)]) dL_cost_13 (Nat.le_of_ble_eq_true rfl) rfl ?_
      refine r_iconst dL_cost_15 ?_
      exact r_iret dL_cost_16 rfl (by rw [hP]; exact wk_ex hE (Or.inl rfl) hd)
    · exact absurd hE (by unfold oCost; (repeat' split) <;> simp)
  · rintro _ s ⟨h1, rfl, h3⟩
    refine r_i2lb dL_cost_8 ?_
    refine r_last dL_cost_9 sh59 (by omega) ?_
    refine r_goto (tgt := 17) dL_cost_10 (by decide) ?_
    refine r_iconst dL_cost_17 ?_
    exact r_iret dL_cost_18 rfl (by rw [hP]; exact wk_ok ⟨h1, rfl, h3⟩ rfl)
set_option maxHeartbeats 1000000 in
set_option maxRecDepth 100000 in
theorem tL_cut (G : GT) (σ : Sg) (p c : Int) (hci : CI σ) (hrg : (-2147483648 ≤ p ∧ p ≤ 2147483647) ∧ (-2147483648 ≤ c ∧ c ≤ 2147483647)) : CtW G mL_cut [(0, 10, 13, 13)] 7 SH [Rf G 0, I p, I c, Rf G 59] σ (WkP σ (oCut (absC σ) p c)) := by
  obtain ⟨P, hP⟩ : ∃ P : Option Value → Sg → Prop, P = (WkP σ (oCut (absC σ) p c)) := ⟨_, rfl⟩
  rw [← hP]
  refine ctw_of (lv := [(0, Rf G 0), (1, I p), (2, I c), (3, Rf G 59)]) (by decide +kernel) (Nat.le_of_ble_eq_true rfl) rfl ?_
  refine r_aload_n dL_cut_0 rfl rfl ?_
  refine r_iconst dL_cut_1 ?_
  refine r_aload_n dL_cut_2 rfl rfl ?_
  refine r_iload_n dL_cut_3 rfl rfl ?_
  refine r_iload_n dL_cut_4 rfl rfl ?_
  refine r_callX (hh := [(0, 10, 13, 13)]) (tX7_cut G σ p c hci hrg) dL_cut_5 svX7_cut q624 sh0 (ci := 7) rfl rfl rfl ⟨Nat.le_of_ble_eq_true rfl, Nat.le_of_ble_eq_true rfl⟩ (Nat.le_of_ble_eq_true rfl) ⟨Nat.le_of_ble_eq_true rfl, Nat.le_of_ble_eq_true rfl⟩ ?_ ?_
  · rintro _ τ ⟨⟨rfl, hE⟩ | ⟨rfl, hE⟩, hd⟩
    · refine ⟨13, ⟨[], _, _, _, rfl, fun z h => absurd h List.not_mem_nil, rfl, Nat.succ_ne_zero _, q388, xs1, rfl⟩, fun q => ?_⟩
      refine r_astoreq (lv' := [(0, Rf G 0), (1, I p), (2, I c), (3, Rf G 59), (4, .ref q)]) dL_cut_13 (Nat.le_of_ble_eq_true rfl) rfl ?_
      refine r_iconst dL_cut_15 ?_
      exact r_iret dL_cut_16 rfl (by rw [hP]; exact wk_ex hE (Or.inl rfl) hd)
    · exact absurd hE (by unfold oCut; (repeat' split) <;> simp)
  · rintro _ s ⟨h1, rfl, h3⟩
    refine r_i2lb dL_cut_8 ?_
    refine r_last dL_cut_9 sh59 (by omega) ?_
    refine r_goto (tgt := 17) dL_cut_10 (by decide) ?_
    refine r_iconst dL_cut_17 ?_
    exact r_iret dL_cut_18 rfl (by rw [hP]; exact wk_ok ⟨h1, rfl, h3⟩ rfl)
set_option maxHeartbeats 1000000 in
set_option maxRecDepth 100000 in
theorem tL_fewestParts (G : GT) (σ : Sg) (m : Int) (hci : CI σ) (hrg : (-2147483648 ≤ m ∧ m ≤ 2147483647)) : CtW G mL_fewestParts [(0, 9, 12, 13)] 7 SH [Rf G 0, I m, Rf G 59] σ (WkP σ (oFewest (absC σ) m)) := by
  obtain ⟨P, hP⟩ : ∃ P : Option Value → Sg → Prop, P = (WkP σ (oFewest (absC σ) m)) := ⟨_, rfl⟩
  rw [← hP]
  refine ctw_of (lv := [(0, Rf G 0), (1, I m), (2, Rf G 59)]) (by decide +kernel) (Nat.le_of_ble_eq_true rfl) rfl ?_
  refine r_aload_n dL_fewestParts_0 rfl rfl ?_
  refine r_iconst dL_fewestParts_1 ?_
  refine r_aload_n dL_fewestParts_2 rfl rfl ?_
  refine r_iload_n dL_fewestParts_3 rfl rfl ?_
  refine r_callX (hh := [(0, 9, 12, 13)]) (tX7_fewestParts G σ m hci hrg) dL_fewestParts_4 svX7_fewestParts q631 sh0 (ci := 7) rfl rfl rfl ⟨Nat.le_of_ble_eq_true rfl, Nat.le_of_ble_eq_true rfl⟩ (Nat.le_of_ble_eq_true rfl) ⟨Nat.le_of_ble_eq_true rfl, Nat.le_of_ble_eq_true rfl⟩ ?_ ?_
  · rintro _ τ ⟨⟨rfl, hE⟩ | ⟨rfl, hE⟩, hd⟩
    · refine ⟨12, ⟨[], _, _, _, rfl, fun z h => absurd h List.not_mem_nil, rfl, Nat.succ_ne_zero _, q388, xs1, rfl⟩, fun q => ?_⟩
      refine r_astoreq_n (lv' := [(0, Rf G 0), (1, I m), (2, Rf G 59), (3, .ref q)]) dL_fewestParts_12 rfl (Nat.le_of_ble_eq_true rfl) rfl ?_
      refine r_iconst dL_fewestParts_13 ?_
      exact r_iret dL_fewestParts_14 rfl (by rw [hP]; exact wk_ex hE (Or.inl rfl) hd)
    · exact absurd hE (by unfold oFewest; (repeat' split) <;> simp)
  · rintro _ s ⟨h1, rfl, h3⟩
    refine r_i2lb dL_fewestParts_7 ?_
    refine r_last dL_fewestParts_8 sh59 (by omega) ?_
    refine r_goto (tgt := 15) dL_fewestParts_9 (by decide) ?_
    refine r_iconst dL_fewestParts_15 ?_
    exact r_iret dL_fewestParts_16 rfl (by rw [hP]; exact wk_ok ⟨h1, rfl, h3⟩ rfl)
