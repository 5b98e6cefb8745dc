variable {Ω : List Ob}

theorem xs1 : (.castable xE1 xE1 : Cond) ∈ XSW := List.mem_cons_self
theorem xs2 : (.castable xE2 xE2 : Cond) ∈ XSW := List.mem_cons_of_mem _ List.mem_cons_self
theorem xs3 : (.castable xE3 xE3 : Cond) ∈ XSW := List.mem_cons_of_mem _ (List.mem_cons_of_mem _ List.mem_cons_self)
theorem xc12 : (xE1, xE2) ∈ XC2 := by simp [XC2]
theorem xc13 : (xE1, xE3) ∈ XC2 := by simp [XC2]
theorem xc21 : (xE2, xE1) ∈ XC2 := by simp [XC2]
theorem xc23 : (xE2, xE3) ∈ XC2 := by simp [XC2]
theorem xc31 : (xE3, xE1) ∈ XC2 := by simp [XC2]
theorem xc32 : (xE3, xE2) ∈ XC2 := by simp [XC2]
theorem tX7_keep (G : GT) (σ : Sg) (k : Int) (hci : CI σ) (hrg : (-2147483648 ≤ k ∧ k ≤ 2147483647)) : CtX G mX7_keep 6 (SH Ω) [Rf G 0, I k] σ (OkP σ (oKeep (absC σ) k)) (ExP σ (oKeep (absC σ) k) xE1 xE3) := by
  by_cases h0 : k = 0
  · exact tX7_keep0 G σ k hci hrg h0
  · by_cases h1 : k = 1
    · exact tX7_keep1 G σ k hci hrg h1
    · exact tX7_keepN G σ k hci hrg (fun q => q.elim h0 h1)
theorem tX7_goBack (G : GT) (σ : Sg) (k : Int) (hci : CI σ) (hrg : (-2147483648 ≤ k ∧ k ≤ 2147483647)) : CtX G mX7_goBack 6 (SH Ω) [Rf G 0, I k] σ (OkP σ (oBack (absC σ) k)) (ExP σ (oBack (absC σ) k) xE1 xE3) := by
  by_cases h0 : k = 0
  · exact tX7_goBack0 G σ k hci hrg h0
  · by_cases h1 : k = 1
    · exact tX7_goBack1 G σ k hci hrg h1
    · exact tX7_goBackN G σ k hci hrg (fun q => q.elim h0 h1)


/-- what the law's call answers: the answer, or the exception's number -/
def cvl (o : Op3) (c1 c2 : Int) : Int := if o.1 = 0 then o.2.1 else if o.1 = 1 then c1 else c2
def CkP (σ : Sg) (o : Op3) (c1 c2 : Int) : Option Value → Sg → Prop := fun rv sv => some (I (cvl o c1 c2)) = rv ∧ Done σ sv o.2.2
theorem ck_ok {σ s : Sg} {o : Op3} {c1 c2 : Int} (h : o.1 = 0) (hd : Done σ s o.2.2) : CkP σ o c1 c2 (some (I o.2.1)) s := ⟨by unfold cvl; rw [if_pos h], hd⟩
theorem ck_1 {σ s : Sg} {o : Op3} {c1 c2 : Int} (h : o.1 = 1) (hd : Done σ s o.2.2) : CkP σ o c1 c2 (some (I c1)) s := ⟨by unfold cvl; rw [if_neg (by omega), if_pos h], hd⟩
theorem ck_2 {σ s : Sg} {o : Op3} {c1 c2 : Int} (h : o.1 = 2) (hd : Done σ s o.2.2) : CkP σ o c1 c2 (some (I c2)) s := ⟨by unfold cvl; rw [if_neg (by omega), if_neg (by omega)], hd⟩

abbrev hhC : HH := [(0, 274, 275, 76), (0, 274, 280, 78), (0, 274, 285, 80)]
theorem uX_size (G : GT) (σ : Sg) (r c : Int) {A : Ab} (hci : CI σ) (ha : absC σ = A) (hrg : (-2147483648 ≤ r ∧ r ≤ 2147483647) ∧ (-2147483648 ≤ c ∧ c ≤ 2147483647)) : CtX G mX7_size 6 (SH Ω) [Rf G 0, I r, I c] σ (OkP σ (oSize A r c)) (ExP σ (oSize A r c) xE1 xE3) := by subst ha; exact tX7_size G σ r c hci hrg
set_option maxHeartbeats 1000000 in
set_option maxRecDepth 100000 in
theorem tL_call0 (G : GT) (σ : Sg) (r c z0 z1 : Int) {A : Ab} (hci : CI σ) (ha : absC σ = A) (hrg : (-2147483648 ≤ r ∧ r ≤ 2147483647) ∧ (-2147483648 ≤ c ∧ c ≤ 2147483647)) : CtW G mL_call hhC 7 (SH Ω) [Rf G 0, I 0, I r, I c, I z0, I z1] σ (CkP σ (oSize A r c) (-12) (-13)) := by
  obtain ⟨P, hP⟩ : ∃ P : Option Value → Sg → Prop, P = (CkP σ (oSize A r c) (-12) (-13)) := ⟨_, rfl⟩
  rw [← hP]
  refine ctw_of (lv := [(0, Rf G 0), (1, I 0), (2, I r), (3, I c), (4, I z0), (5, I z1)]) (by decide +kernel) (Nat.le_of_ble_eq_true rfl) rfl ?_
  refine r_iload_n dL_call_0 rfl rfl ?_
  refine r_if_ne (tgt := 13) dL_call_1 (by decide) (by decide) (fun hb1 => ?_) (fun hb1 => ?_)
  · skip
    exact absurd hb1 (by omega)
  · skip
    refine r_aload_n dL_call_4 rfl rfl ?_
    refine r_iload_n dL_call_5 rfl rfl ?_
    refine r_iload_n dL_call_6 rfl rfl ?_
    refine r_callX (hh := hhC) (uX_size G σ r c hci ha hrg) dL_call_7 svX7_size q383 sh0 (ci := 7) rfl rfl rfl ⟨Nat.le_of_ble_eq_true rfl, Nat.le_of_ble_eq_true rfl⟩ (Nat.le_of_ble_eq_true rfl) ⟨Nat.le_of_ble_eq_true rfl, Nat.le_of_ble_eq_true rfl⟩ ?_ ?_
    · rintro _ τ ⟨⟨rfl, hE⟩ | ⟨rfl, hE⟩, hd⟩
      · refine ⟨280, ⟨[_], _, _, _, rfl, fun z h => by rw [List.mem_singleton.mp h]; exact Or.inr ⟨Nat.succ_ne_zero _, _, q380, xc12⟩, rfl, Nat.succ_ne_zero _, q381, xs1, rfl⟩, fun q => ?_⟩
        refine r_astoreq (lv' := [(0, Rf G 0), (1, I 0), (2, I r), (3, I c), (4, I z0), (5, I z1), (6, .ref q)]) dL_call_280 (Nat.le_of_ble_eq_true rfl) rfl ?_
        refine r_bipush dL_call_282 rfl ?_
        exact r_iret dL_call_284 rfl (by rw [hP]; exact ck_1 hE hd)
      · refine ⟨285, ⟨[_, _], _, _, _, rfl, fun z h => by rcases List.mem_cons.mp h with rfl | h; exact Or.inr ⟨Nat.succ_ne_zero _, _, q380, xc32⟩; rw [List.mem_singleton.mp h]; exact Or.inr ⟨Nat.succ_ne_zero _, _, q381, xc31⟩, rfl, Nat.succ_ne_zero _, q382, xs3, rfl⟩, fun q => ?_⟩
        refine r_astoreq (lv' := [(0, Rf G 0), (1, I 0), (2, I r), (3, I c), (4, I z0), (5, I z1), (6, .ref q)]) dL_call_285 (Nat.le_of_ble_eq_true rfl) rfl ?_
        refine r_bipush dL_call_287 rfl ?_
        exact r_iret dL_call_289 rfl (by rw [hP]; exact ck_2 hE hd)
    · rintro _ s ⟨h1, rfl, h3⟩
      refine r_goto (tgt := 274) dL_call_10 (by decide) ?_
      exact r_iret dL_call_274 rfl (by rw [hP]; exact ck_ok h1 h3)
theorem uX_put (G : GT) (σ : Sg) (r c v : Int) {A : Ab} (hci : CI σ) (ha : absC σ = A) (hrg : (-2147483648 ≤ r ∧ r ≤ 2147483647) ∧ (-2147483648 ≤ c ∧ c ≤ 2147483647) ∧ (-2147483648 ≤ v ∧ v ≤ 2147483647)) : CtX G mX7_put 6 (SH Ω) [Rf G 0, I r, I c, I v] σ (OkP σ (oPut A r c v)) (ExP σ (oPut A r c v) xE2 xE1) := by subst ha; exact tX7_put G σ r c v hci hrg
set_option maxHeartbeats 1000000 in
set_option maxRecDepth 100000 in
theorem tL_call1 (G : GT) (σ : Sg) (r c v z0 : Int) {A : Ab} (hci : CI σ) (ha : absC σ = A) (hrg : (-2147483648 ≤ r ∧ r ≤ 2147483647) ∧ (-2147483648 ≤ c ∧ c ≤ 2147483647) ∧ (-2147483648 ≤ v ∧ v ≤ 2147483647)) : CtW G mL_call hhC 7 (SH Ω) [Rf G 0, I 1, I r, I c, I v, I z0] σ (CkP σ (oPut A r c v) (-11) (-12)) := by
  obtain ⟨P, hP⟩ : ∃ P : Option Value → Sg → Prop, P = (CkP σ (oPut A r c v) (-11) (-12)) := ⟨_, rfl⟩
  rw [← hP]
  refine ctw_of (lv := [(0, Rf G 0), (1, I 1), (2, I r), (3, I c), (4, I v), (5, I z0)]) (by decide +kernel) (Nat.le_of_ble_eq_true rfl) rfl ?_
  refine r_iload_n dL_call_0 rfl rfl ?_
  refine r_if_ne (tgt := 13) dL_call_1 (by decide) (by decide) (fun hb1 => ?_) (fun hb1 => ?_)
  · skip
    refine r_iload_n dL_call_13 rfl rfl ?_
    refine r_iconst dL_call_14 ?_
    refine r_icmp_ne (tgt := 29) dL_call_15 (by decide) (by decide) (fun hb2 => ?_) (fun hb2 => ?_)
    · skip
      exact absurd hb2 (by omega)
    · skip
      refine r_aload_n dL_call_18 rfl rfl ?_
      refine r_iload_n dL_call_19 rfl rfl ?_
      refine r_iload_n dL_call_20 rfl rfl ?_
      refine r_iload dL_call_21 rfl ?_
      refine r_callX (hh := hhC) (uX_put G σ r c v hci ha hrg) dL_call_23 svX7_put q139 sh0 (ci := 7) rfl rfl rfl ⟨Nat.le_of_ble_eq_true rfl, Nat.le_of_ble_eq_true rfl⟩ (Nat.le_of_ble_eq_true rfl) ⟨Nat.le_of_ble_eq_true rfl, Nat.le_of_ble_eq_true rfl⟩ ?_ ?_
      · rintro _ τ ⟨⟨rfl, hE⟩ | ⟨rfl, hE⟩, hd⟩
        · refine ⟨275, ⟨[], _, _, _, rfl, fun z h => absurd h List.not_mem_nil, rfl, Nat.succ_ne_zero _, q380, xs2, rfl⟩, fun q => ?_⟩
          refine r_astoreq (lv' := [(0, Rf G 0), (1, I 1), (2, I r), (3, I c), (4, I v), (5, I z0), (6, .ref q)]) dL_call_275 (Nat.le_of_ble_eq_true rfl) rfl ?_
          refine r_bipush dL_call_277 rfl ?_
          exact r_iret dL_call_279 rfl (by rw [hP]; exact ck_1 hE hd)
        · refine ⟨280, ⟨[_], _, _, _, rfl, fun z h => by rw [List.mem_singleton.mp h]; exact Or.inr ⟨Nat.succ_ne_zero _, _, q380, xc12⟩, rfl, Nat.succ_ne_zero _, q381, xs1, rfl⟩, fun q => ?_⟩
          refine r_astoreq (lv' := [(0, Rf G 0), (1, I 1), (2, I r), (3, I c), (4, I v), (5, I z0), (6, .ref q)]) dL_call_280 (Nat.le_of_ble_eq_true rfl) rfl ?_
          refine r_bipush dL_call_282 rfl ?_
          exact r_iret dL_call_284 rfl (by rw [hP]; exact ck_2 hE hd)
      · rintro _ s ⟨h1, rfl, h3⟩
        refine r_goto (tgt := 274) dL_call_26 (by decide) ?_
        exact r_iret dL_call_274 rfl (by rw [hP]; exact ck_ok h1 h3)
  · skip
    exact absurd hb1 (by omega)
theorem uX_points (G : GT) (σ : Sg) (a b c d : Int) {A : Ab} (hci : CI σ) (ha : absC σ = A) (hrg : (-2147483648 ≤ a ∧ a ≤ 2147483647) ∧ (-2147483648 ≤ b ∧ b ≤ 2147483647) ∧ (-2147483648 ≤ c ∧ c ≤ 2147483647) ∧ (-2147483648 ≤ d ∧ d ≤ 2147483647)) : CtX G mX7_points 6 (SH Ω) [Rf G 0, I a, I b, I c, I d] σ (OkP σ (oPoints A a b c d)) (ExP σ (oPoints A a b c d) xE1 xE3) := by subst ha; exact tX7_points G σ a b c d hci hrg
set_option maxHeartbeats 1000000 in
set_option maxRecDepth 100000 in
theorem tL_call2 (G : GT) (σ : Sg) (a b c d : Int) {A : Ab} (hci : CI σ) (ha : absC σ = A) (hrg : (-2147483648 ≤ a ∧ a ≤ 2147483647) ∧ (-2147483648 ≤ b ∧ b ≤ 2147483647) ∧ (-2147483648 ≤ c ∧ c ≤ 2147483647) ∧ (-2147483648 ≤ d ∧ d ≤ 2147483647)) : CtW G mL_call hhC 7 (SH Ω) [Rf G 0, I 2, I a, I b, I c, I d] σ (CkP σ (oPoints A a b c d) (-12) (-13)) := by
  obtain ⟨P, hP⟩ : ∃ P : Option Value → Sg → Prop, P = (CkP σ (oPoints A a b c d) (-12) (-13)) := ⟨_, rfl⟩
  rw [← hP]
  refine ctw_of (lv := [(0, Rf G 0), (1, I 2), (2, I a), (3, I b), (4, I c), (5, I d)]) (by decide +kernel) (Nat.le_of_ble_eq_true rfl) rfl ?_
  refine r_iload_n dL_call_0 rfl rfl ?_
  refine r_if_ne (tgt := 13) dL_call_1 (by decide) (by decide) (fun hb1 => ?_) (fun hb1 => ?_)
  · skip
    refine r_iload_n dL_call_13 rfl rfl ?_
    refine r_iconst dL_call_14 ?_
    refine r_icmp_ne (tgt := 29) dL_call_15 (by decide) (by decide) (fun hb2 => ?_) (fun hb2 => ?_)
    · skip
      refine r_iload_n dL_call_29 rfl rfl ?_
      refine r_iconst dL_call_30 ?_
      refine r_icmp_ne (tgt := 47) dL_call_31 (by decide) (by decide) (fun hb3 => ?_) (fun hb3 => ?_)
      · skip
        exact absurd hb3 (by omega)
      · skip
        refine r_aload_n dL_call_34 rfl rfl ?_
        refine r_iload_n dL_call_35 rfl rfl ?_
        refine r_iload_n dL_call_36 rfl rfl ?_
        refine r_iload dL_call_37 rfl ?_
        refine r_iload dL_call_39 rfl ?_
        refine r_callX (hh := hhC) (uX_points G σ a b c d hci ha hrg) dL_call_41 svX7_points q217 sh0 (ci := 7) rfl rfl rfl ⟨Nat.le_of_ble_eq_true rfl, Nat.le_of_ble_eq_true rfl⟩ (Nat.le_of_ble_eq_true rfl) ⟨Nat.le_of_ble_eq_true rfl, Nat.le_of_ble_eq_true rfl⟩ ?_ ?_
        · rintro _ τ ⟨⟨rfl, hE⟩ | ⟨rfl, hE⟩, hd⟩
          · refine ⟨280, ⟨[_], _, _, _, rfl, fun z h => by rw [List.mem_singleton.mp h]; exact Or.inr ⟨Nat.succ_ne_zero _, _, q380, xc12⟩, rfl, Nat.succ_ne_zero _, q381, xs1, rfl⟩, fun q => ?_⟩
            refine r_astoreq (lv' := [(0, Rf G 0), (1, I 2), (2, I a), (3, I b), (4, I c), (5, I d), (6, .ref q)]) dL_call_280 (Nat.le_of_ble_eq_true rfl) rfl ?_
            refine r_bipush dL_call_282 rfl ?_
            exact r_iret dL_call_284 rfl (by rw [hP]; exact ck_1 hE hd)
          · refine ⟨285, ⟨[_, _], _, _, _, rfl, fun z h => by rcases List.mem_cons.mp h with rfl | h; exact Or.inr ⟨Nat.succ_ne_zero _, _, q380, xc32⟩; rw [List.mem_singleton.mp h]; exact Or.inr ⟨Nat.succ_ne_zero _, _, q381, xc31⟩, rfl, Nat.succ_ne_zero _, q382, xs3, rfl⟩, fun q => ?_⟩
            refine r_astoreq (lv' := [(0, Rf G 0), (1, I 2), (2, I a), (3, I b), (4, I c), (5, I d), (6, .ref q)]) dL_call_285 (Nat.le_of_ble_eq_true rfl) rfl ?_
            refine r_bipush dL_call_287 rfl ?_
            exact r_iret dL_call_289 rfl (by rw [hP]; exact ck_2 hE hd)
        · rintro _ s ⟨h1, rfl, h3⟩
          refine r_goto (tgt := 274) dL_call_44 (by decide) ?_
          exact r_iret dL_call_274 rfl (by rw [hP]; exact ck_ok h1 h3)
    · skip
      exact absurd hb2 (by omega)
  · skip
    exact absurd hb1 (by omega)
theorem uX_find (G : GT) (σ : Sg) (w : Int) {A : Ab} (hci : CI σ) (ha : absC σ = A) (hrg : (-2147483648 ≤ w ∧ w ≤ 2147483647)) : CtX G mX7_find 16 (SH Ω) [Rf G 0, I w] σ (OkP σ (oFind A w)) (ExP σ (oFind A w) xE1 xE3) := by subst ha; exact tX7_find G σ w hci hrg
set_option maxHeartbeats 1000000 in
set_option maxRecDepth 100000 in
theorem tL_call3 (G : GT) (σ : Sg) (w z0 z1 z2 : Int) {A : Ab} (hci : CI σ) (ha : absC σ = A) (hrg : (-2147483648 ≤ w ∧ w ≤ 2147483647)) : CtW G mL_call hhC 17 (SH Ω) [Rf G 0, I 3, I w, I z0, I z1, I z2] σ (CkP σ (oFind A w) (-12) (-13)) := by
  obtain ⟨P, hP⟩ : ∃ P : Option Value → Sg → Prop, P = (CkP σ (oFind A w) (-12) (-13)) := ⟨_, rfl⟩
  rw [← hP]
  refine ctw_of (lv := [(0, Rf G 0), (1, I 3), (2, I w), (3, I z0), (4, I z1), (5, I z2)]) (by decide +kernel) (Nat.le_of_ble_eq_true rfl) rfl ?_
  refine r_iload_n dL_call_0 rfl rfl ?_
  refine r_if_ne (tgt := 13) dL_call_1 (by decide) (by decide) (fun hb1 => ?_) (fun hb1 => ?_)
  · skip
    refine r_iload_n dL_call_13 rfl rfl ?_
    refine r_iconst dL_call_14 ?_
    refine r_icmp_ne (tgt := 29) dL_call_15 (by decide) (by decide) (fun hb2 => ?_) (fun hb2 => ?_)
    · skip
      refine r_iload_n dL_call_29 rfl rfl ?_
      refine r_iconst dL_call_30 ?_
      refine r_icmp_ne (tgt := 47) dL_call_31 (by decide) (by decide) (fun hb3 => ?_) (fun hb3 => ?_)
      · skip
        refine r_iload_n dL_call_47 rfl rfl ?_
        refine r_iconst dL_call_48 ?_
        refine r_icmp_ne (tgt := 60) dL_call_49 (by decide) (by decide) (fun hb4 => ?_) (fun hb4 => ?_)
        · skip
          exact absurd hb4 (by omega)
        · skip
          refine r_aload_n dL_call_52 rfl rfl ?_
          refine r_iload_n dL_call_53 rfl rfl ?_
          refine r_callX (hh := hhC) (uX_find G σ w hci ha hrg) dL_call_54 svX7_find q244 sh0 (ci := 7) rfl rfl rfl ⟨Nat.le_of_ble_eq_true rfl, Nat.le_of_ble_eq_true rfl⟩ (Nat.le_of_ble_eq_true rfl) ⟨Nat.le_of_ble_eq_true rfl, Nat.le_of_ble_eq_true rfl⟩ ?_ ?_
          · rintro _ τ ⟨⟨rfl, hE⟩ | ⟨rfl, hE⟩, hd⟩
            · refine ⟨280, ⟨[_], _, _, _, rfl, fun z h => by rw [List.mem_singleton.mp h]; exact Or.inr ⟨Nat.succ_ne_zero _, _, q380, xc12⟩, rfl, Nat.succ_ne_zero _, q381, xs1, rfl⟩, fun q => ?_⟩
              refine r_astoreq (lv' := [(0, Rf G 0), (1, I 3), (2, I w), (3, I z0), (4, I z1), (5, I z2), (6, .ref q)]) dL_call_280 (Nat.le_of_ble_eq_true rfl) rfl ?_
              refine r_bipush dL_call_282 rfl ?_
              exact r_iret dL_call_284 rfl (by rw [hP]; exact ck_1 hE hd)
            · refine ⟨285, ⟨[_, _], _, _, _, rfl, fun z h => by rcases List.mem_cons.mp h with rfl | h; exact Or.inr ⟨Nat.succ_ne_zero _, _, q380, xc32⟩; rw [List.mem_singleton.mp h]; exact Or.inr ⟨Nat.succ_ne_zero _, _, q381, xc31⟩, rfl, Nat.succ_ne_zero _, q382, xs3, rfl⟩, fun q => ?_⟩
              refine r_astoreq (lv' := [(0, Rf G 0), (1, I 3), (2, I w), (3, I z0), (4, I z1), (5, I z2), (6, .ref q)]) dL_call_285 (Nat.le_of_ble_eq_true rfl) rfl ?_
              refine r_bipush dL_call_287 rfl ?_
              exact r_iret dL_call_289 rfl (by rw [hP]; exact ck_2 hE hd)
          · rintro _ s ⟨h1, rfl, h3⟩
            refine r_goto (tgt := 274) dL_call_57 (by decide) ?_
            exact r_iret dL_call_274 rfl (by rw [hP]; exact ck_ok h1 h3)
      · skip
        exact absurd hb3 (by omega)
    · skip
      exact absurd hb2 (by omega)
  · skip
    exact absurd hb1 (by omega)
theorem uX_weigh (G : GT) (σ : Sg) (v : Int) {A : Ab} (hci : CI σ) (ha : absC σ = A) (hrg : (-2147483648 ≤ v ∧ v ≤ 2147483647)) : CtX G mX7_weigh 6 (SH Ω) [Rf G 0, I v] σ (OkP σ (oWeigh A v)) (ExP σ (oWeigh A v) xE1 xE3) := by subst ha; exact tX7_weigh G σ v hci hrg
set_option maxHeartbeats 1000000 in
set_option maxRecDepth 100000 in
theorem tL_call4 (G : GT) (σ : Sg) (v z0 z1 z2 : Int) {A : Ab} (hci : CI σ) (ha : absC σ = A) (hrg : (-2147483648 ≤ v ∧ v ≤ 2147483647)) : CtW G mL_call hhC 7 (SH Ω) [Rf G 0, I 4, I v, I z0, I z1, I z2] σ (CkP σ (oWeigh A v) (-12) (-13)) := by
  obtain ⟨P, hP⟩ : ∃ P : Option Value → Sg → Prop, P = (CkP σ (oWeigh A v) (-12) (-13)) := ⟨_, rfl⟩
  rw [← hP]
  refine ctw_of (lv := [(0, Rf G 0), (1, I 4), (2, I v), (3, I z0), (4, I z1), (5, I z2)]) (by decide +kernel) (Nat.le_of_ble_eq_true rfl) rfl ?_
  refine r_iload_n dL_call_0 rfl rfl ?_
  refine r_if_ne (tgt := 13) dL_call_1 (by decide) (by decide) (fun hb1 => ?_) (fun hb1 => ?_)
  · skip
    refine r_iload_n dL_call_13 rfl rfl ?_
    refine r_iconst dL_call_14 ?_
    refine r_icmp_ne (tgt := 29) dL_call_15 (by decide) (by decide) (fun hb2 => ?_) (fun hb2 => ?_)
    · skip
      refine r_iload_n dL_call_29 rfl rfl ?_
      refine r_iconst dL_call_30 ?_
      refine r_icmp_ne (tgt := 47) dL_call_31 (by decide) (by decide) (fun hb3 => ?_) (fun hb3 => ?_)
      · skip
        refine r_iload_n dL_call_47 rfl rfl ?_
        refine r_iconst dL_call_48 ?_
        refine r_icmp_ne (tgt := 60) dL_call_49 (by decide) (by decide) (fun hb4 => ?_) (fun hb4 => ?_)
        · skip
          refine r_iload_n dL_call_60 rfl rfl ?_
          refine r_iconst dL_call_61 ?_
          refine r_icmp_ne (tgt := 73) dL_call_62 (by decide) (by decide) (fun hb5 => ?_) (fun hb5 => ?_)
          · skip
            exact absurd hb5 (by omega)
          · skip
            refine r_aload_n dL_call_65 rfl rfl ?_
            refine r_iload_n dL_call_66 rfl rfl ?_
            refine r_callX (hh := hhC) (uX_weigh G σ v hci ha hrg) dL_call_67 svX7_weigh q316 sh0 (ci := 7) rfl rfl rfl ⟨Nat.le_of_ble_eq_true rfl, Nat.le_of_ble_eq_true rfl⟩ (Nat.le_of_ble_eq_true rfl) ⟨Nat.le_of_ble_eq_true rfl, Nat.le_of_ble_eq_true rfl⟩ ?_ ?_
            · rintro _ τ ⟨⟨rfl, hE⟩ | ⟨rfl, hE⟩, hd⟩
              · refine ⟨280, ⟨[_], _, _, _, rfl, fun z h => by rw [List.mem_singleton.mp h]; exact Or.inr ⟨Nat.succ_ne_zero _, _, q380, xc12⟩, rfl, Nat.succ_ne_zero _, q381, xs1, rfl⟩, fun q => ?_⟩
                refine r_astoreq (lv' := [(0, Rf G 0), (1, I 4), (2, I v), (3, I z0), (4, I z1), (5, I z2), (6, .ref q)]) dL_call_280 (Nat.le_of_ble_eq_true rfl) rfl ?_
                refine r_bipush dL_call_282 rfl ?_
                exact r_iret dL_call_284 rfl (by rw [hP]; exact ck_1 hE hd)
              · refine ⟨285, ⟨[_, _], _, _, _, rfl, fun z h => by rcases List.mem_cons.mp h with rfl | h; exact Or.inr ⟨Nat.succ_ne_zero _, _, q380, xc32⟩; rw [List.mem_singleton.mp h]; exact Or.inr ⟨Nat.succ_ne_zero _, _, q381, xc31⟩, rfl, Nat.succ_ne_zero _, q382, xs3, rfl⟩, fun q => ?_⟩
                refine r_astoreq (lv' := [(0, Rf G 0), (1, I 4), (2, I v), (3, I z0), (4, I z1), (5, I z2), (6, .ref q)]) dL_call_285 (Nat.le_of_ble_eq_true rfl) rfl ?_
                refine r_bipush dL_call_287 rfl ?_
                exact r_iret dL_call_289 rfl (by rw [hP]; exact ck_2 hE hd)
            · rintro _ s ⟨h1, rfl, h3⟩
              refine r_goto (tgt := 274) dL_call_70 (by decide) ?_
              exact r_iret dL_call_274 rfl (by rw [hP]; exact ck_ok h1 h3)
        · skip
          exact absurd hb4 (by omega)
      · skip
        exact absurd hb3 (by omega)
    · skip
      exact absurd hb2 (by omega)
  · skip
    exact absurd hb1 (by omega)
theorem uX_unweigh (G : GT) (σ : Sg)  {A : Ab} (hci : CI σ) (ha : absC σ = A) : CtX G mX7_unweigh 6 (SH Ω) [Rf G 0] σ (OkP σ (oUnweigh A)) (ExP σ (oUnweigh A) xE3 xE3) := by subst ha; exact tX7_unweigh G σ hci
set_option maxHeartbeats 1000000 in
set_option maxRecDepth 100000 in
theorem tL_call5 (G : GT) (σ : Sg) (z0 z1 z2 z3 : Int) {A : Ab} (hci : CI σ) (ha : absC σ = A) : CtW G mL_call hhC 7 (SH Ω) [Rf G 0, I 5, I z0, I z1, I z2, I z3] σ (CkP σ (oUnweigh A) (-13) (-13)) := by
  obtain ⟨P, hP⟩ : ∃ P : Option Value → Sg → Prop, P = (CkP σ (oUnweigh A) (-13) (-13)) := ⟨_, rfl⟩
  rw [← hP]
  refine ctw_of (lv := [(0, Rf G 0), (1, I 5), (2, I z0), (3, I z1), (4, I z2), (5, I z3)]) (by decide +kernel) (Nat.le_of_ble_eq_true rfl) rfl ?_
  refine r_iload_n dL_call_0 rfl rfl ?_
  refine r_if_ne (tgt := 13) dL_call_1 (by decide) (by decide) (fun hb1 => ?_) (fun hb1 => ?_)
  · skip
    refine r_iload_n dL_call_13 rfl rfl ?_
    refine r_iconst dL_call_14 ?_
    refine r_icmp_ne (tgt := 29) dL_call_15 (by decide) (by decide) (fun hb2 => ?_) (fun hb2 => ?_)
    · skip
      refine r_iload_n dL_call_29 rfl rfl ?_
      refine r_iconst dL_call_30 ?_
      refine r_icmp_ne (tgt := 47) dL_call_31 (by decide) (by decide) (fun hb3 => ?_) (fun hb3 => ?_)
      · skip
        refine r_iload_n dL_call_47 rfl rfl ?_
        refine r_iconst dL_call_48 ?_
        refine r_icmp_ne (tgt := 60) dL_call_49 (by decide) (by decide) (fun hb4 => ?_) (fun hb4 => ?_)
        · skip
          refine r_iload_n dL_call_60 rfl rfl ?_
          refine r_iconst dL_call_61 ?_
          refine r_icmp_ne (tgt := 73) dL_call_62 (by decide) (by decide) (fun hb5 => ?_) (fun hb5 => ?_)
          · skip
            refine r_iload_n dL_call_73 rfl rfl ?_
            refine r_iconst dL_call_74 ?_
            refine r_icmp_ne (tgt := 85) dL_call_75 (by decide) (by decide) (fun hb6 => ?_) (fun hb6 => ?_)
            · skip
              exact absurd hb6 (by omega)
            · skip
              refine r_aload_n dL_call_78 rfl rfl ?_
              refine r_callX (hh := hhC) (uX_unweigh G σ hci ha) dL_call_79 svX7_unweigh q391 sh0 (ci := 7) rfl rfl rfl ⟨Nat.le_of_ble_eq_true rfl, Nat.le_of_ble_eq_true rfl⟩ (Nat.le_of_ble_eq_true rfl) ⟨Nat.le_of_ble_eq_true rfl, Nat.le_of_ble_eq_true rfl⟩ ?_ ?_
              · rintro _ τ ⟨⟨rfl, hE⟩ | ⟨rfl, hE⟩, hd⟩
                · refine ⟨285, ⟨[_, _], _, _, _, rfl, fun z h => by rcases List.mem_cons.mp h with rfl | h; exact Or.inr ⟨Nat.succ_ne_zero _, _, q380, xc32⟩; rw [List.mem_singleton.mp h]; exact Or.inr ⟨Nat.succ_ne_zero _, _, q381, xc31⟩, rfl, Nat.succ_ne_zero _, q382, xs3, rfl⟩, fun q => ?_⟩
                  refine r_astoreq (lv' := [(0, Rf G 0), (1, I 5), (2, I z0), (3, I z1), (4, I z2), (5, I z3), (6, .ref q)]) dL_call_285 (Nat.le_of_ble_eq_true rfl) rfl ?_
                  refine r_bipush dL_call_287 rfl ?_
                  exact r_iret dL_call_289 rfl (by rw [hP]; exact by first | exact ck_1 hE hd | exact ck_2 hE hd)
                · refine ⟨285, ⟨[_, _], _, _, _, rfl, fun z h => by rcases List.mem_cons.mp h with rfl | h; exact Or.inr ⟨Nat.succ_ne_zero _, _, q380, xc32⟩; rw [List.mem_singleton.mp h]; exact Or.inr ⟨Nat.succ_ne_zero _, _, q381, xc31⟩, rfl, Nat.succ_ne_zero _, q382, xs3, rfl⟩, fun q => ?_⟩
                  refine r_astoreq (lv' := [(0, Rf G 0), (1, I 5), (2, I z0), (3, I z1), (4, I z2), (5, I z3), (6, .ref q)]) dL_call_285 (Nat.le_of_ble_eq_true rfl) rfl ?_
                  refine r_bipush dL_call_287 rfl ?_
                  exact r_iret dL_call_289 rfl (by rw [hP]; exact by first | exact ck_1 hE hd | exact ck_2 hE hd)
              · rintro _ s ⟨h1, rfl, h3⟩
                refine r_goto (tgt := 274) dL_call_82 (by decide) ?_
                exact r_iret dL_call_274 rfl (by rw [hP]; exact ck_ok h1 h3)
          · skip
            exact absurd hb5 (by omega)
        · skip
          exact absurd hb4 (by omega)
      · skip
        exact absurd hb3 (by omega)
    · skip
      exact absurd hb2 (by omega)
  · skip
    exact absurd hb1 (by omega)
theorem uX_append (G : GT) (σ : Sg) (c : Int) {A : Ab} (hci : CI σ) (ha : absC σ = A) (hrg : (-2147483648 ≤ c ∧ c ≤ 2147483647)) : CtX G mX7_append 6 (SH Ω) [Rf G 0, I c] σ (OkP σ (oAppend A c)) (ExP σ (oAppend A c) xE1 xE3) := by subst ha; exact tX7_append G σ c hci hrg
set_option maxHeartbeats 1000000 in
set_option maxRecDepth 100000 in
theorem tL_call6 (G : GT) (σ : Sg) (c z0 z1 z2 : Int) {A : Ab} (hci : CI σ) (ha : absC σ = A) (hrg : (-2147483648 ≤ c ∧ c ≤ 2147483647)) : CtW G mL_call hhC 7 (SH Ω) [Rf G 0, I 6, I c, I z0, I z1, I z2] σ (CkP σ (oAppend A c) (-12) (-13)) := by
  obtain ⟨P, hP⟩ : ∃ P : Option Value → Sg → Prop, P = (CkP σ (oAppend A c) (-12) (-13)) := ⟨_, rfl⟩
  rw [← hP]
  refine ctw_of (lv := [(0, Rf G 0), (1, I 6), (2, I c), (3, I z0), (4, I z1), (5, I z2)]) (by decide +kernel) (Nat.le_of_ble_eq_true rfl) rfl ?_
  refine r_iload_n dL_call_0 rfl rfl ?_
  refine r_if_ne (tgt := 13) dL_call_1 (by decide) (by decide) (fun hb1 => ?_) (fun hb1 => ?_)
  · skip
    refine r_iload_n dL_call_13 rfl rfl ?_
    refine r_iconst dL_call_14 ?_
    refine r_icmp_ne (tgt := 29) dL_call_15 (by decide) (by decide) (fun hb2 => ?_) (fun hb2 => ?_)
    · skip
      refine r_iload_n dL_call_29 rfl rfl ?_
      refine r_iconst dL_call_30 ?_
      refine r_icmp_ne (tgt := 47) dL_call_31 (by decide) (by decide) (fun hb3 => ?_) (fun hb3 => ?_)
      · skip
        refine r_iload_n dL_call_47 rfl rfl ?_
        refine r_iconst dL_call_48 ?_
        refine r_icmp_ne (tgt := 60) dL_call_49 (by decide) (by decide) (fun hb4 => ?_) (fun hb4 => ?_)
        · skip
          refine r_iload_n dL_call_60 rfl rfl ?_
          refine r_iconst dL_call_61 ?_
          refine r_icmp_ne (tgt := 73) dL_call_62 (by decide) (by decide) (fun hb5 => ?_) (fun hb5 => ?_)
          · skip
            refine r_iload_n dL_call_73 rfl rfl ?_
            refine r_iconst dL_call_74 ?_
            refine r_icmp_ne (tgt := 85) dL_call_75 (by decide) (by decide) (fun hb6 => ?_) (fun hb6 => ?_)
            · skip
              refine r_iload_n dL_call_85 rfl rfl ?_
              refine r_bipush dL_call_86 rfl ?_
              refine r_icmp_ne (tgt := 99) dL_call_88 (by decide) (by decide) (fun hb7 => ?_) (fun hb7 => ?_)
              · skip
                exact absurd hb7 (by omega)
              · skip
                refine r_aload_n dL_call_91 rfl rfl ?_
                refine r_iload_n dL_call_92 rfl rfl ?_
                refine r_callX (hh := hhC) (uX_append G σ c hci ha hrg) dL_call_93 svX7_append q396 sh0 (ci := 7) rfl rfl rfl ⟨Nat.le_of_ble_eq_true rfl, Nat.le_of_ble_eq_true rfl⟩ (Nat.le_of_ble_eq_true rfl) ⟨Nat.le_of_ble_eq_true rfl, Nat.le_of_ble_eq_true rfl⟩ ?_ ?_
                · rintro _ τ ⟨⟨rfl, hE⟩ | ⟨rfl, hE⟩, hd⟩
                  · refine ⟨280, ⟨[_], _, _, _, rfl, fun z h => by rw [List.mem_singleton.mp h]; exact Or.inr ⟨Nat.succ_ne_zero _, _, q380, xc12⟩, rfl, Nat.succ_ne_zero _, q381, xs1, rfl⟩, fun q => ?_⟩
                    refine r_astoreq (lv' := [(0, Rf G 0), (1, I 6), (2, I c), (3, I z0), (4, I z1), (5, I z2), (6, .ref q)]) dL_call_280 (Nat.le_of_ble_eq_true rfl) rfl ?_
                    refine r_bipush dL_call_282 rfl ?_
                    exact r_iret dL_call_284 rfl (by rw [hP]; exact ck_1 hE hd)
                  · refine ⟨285, ⟨[_, _], _, _, _, rfl, fun z h => by rcases List.mem_cons.mp h with rfl | h; exact Or.inr ⟨Nat.succ_ne_zero _, _, q380, xc32⟩; rw [List.mem_singleton.mp h]; exact Or.inr ⟨Nat.succ_ne_zero _, _, q381, xc31⟩, rfl, Nat.succ_ne_zero _, q382, xs3, rfl⟩, fun q => ?_⟩
                    refine r_astoreq (lv' := [(0, Rf G 0), (1, I 6), (2, I c), (3, I z0), (4, I z1), (5, I z2), (6, .ref q)]) dL_call_285 (Nat.le_of_ble_eq_true rfl) rfl ?_
                    refine r_bipush dL_call_287 rfl ?_
                    exact r_iret dL_call_289 rfl (by rw [hP]; exact ck_2 hE hd)
                · rintro _ s ⟨h1, rfl, h3⟩
                  refine r_goto (tgt := 274) dL_call_96 (by decide) ?_
                  exact r_iret dL_call_274 rfl (by rw [hP]; exact ck_ok h1 h3)
            · skip
              exact absurd hb6 (by omega)
          · skip
            exact absurd hb5 (by omega)
        · skip
          exact absurd hb4 (by omega)
      · skip
        exact absurd hb3 (by omega)
    · skip
      exact absurd hb2 (by omega)
  · skip
    exact absurd hb1 (by omega)
theorem uX_load (G : GT) (σ : Sg)  {A : Ab} (hci : CI σ) (ha : absC σ = A) : CtX G mX7_load 6 (SH Ω) [Rf G 0] σ (OkP σ (oLoad A)) (ExP σ (oLoad A) xE1 xE3) := by subst ha; exact tX7_load G σ hci
set_option maxHeartbeats 1000000 in
set_option maxRecDepth 100000 in
theorem tL_call7 (G : GT) (σ : Sg) (z0 z1 z2 z3 : Int) {A : Ab} (hci : CI σ) (ha : absC σ = A) : CtW G mL_call hhC 7 (SH Ω) [Rf G 0, I 7, I z0, I z1, I z2, I z3] σ (CkP σ (oLoad A) (-12) (-13)) := by
  obtain ⟨P, hP⟩ : ∃ P : Option Value → Sg → Prop, P = (CkP σ (oLoad A) (-12) (-13)) := ⟨_, rfl⟩
  rw [← hP]
  refine ctw_of (lv := [(0, Rf G 0), (1, I 7), (2, I z0), (3, I z1), (4, I z2), (5, I z3)]) (by decide +kernel) (Nat.le_of_ble_eq_true rfl) rfl ?_
  refine r_iload_n dL_call_0 rfl rfl ?_
  refine r_if_ne (tgt := 13) dL_call_1 (by decide) (by decide) (fun hb1 => ?_) (fun hb1 => ?_)
  · skip
    refine r_iload_n dL_call_13 rfl rfl ?_
    refine r_iconst dL_call_14 ?_
    refine r_icmp_ne (tgt := 29) dL_call_15 (by decide) (by decide) (fun hb2 => ?_) (fun hb2 => ?_)
    · skip
      refine r_iload_n dL_call_29 rfl rfl ?_
      refine r_iconst dL_call_30 ?_
      refine r_icmp_ne (tgt := 47) dL_call_31 (by decide) (by decide) (fun hb3 => ?_) (fun hb3 => ?_)
      · skip
        refine r_iload_n dL_call_47 rfl rfl ?_
        refine r_iconst dL_call_48 ?_
        refine r_icmp_ne (tgt := 60) dL_call_49 (by decide) (by decide) (fun hb4 => ?_) (fun hb4 => ?_)
        · skip
          refine r_iload_n dL_call_60 rfl rfl ?_
          refine r_iconst dL_call_61 ?_
          refine r_icmp_ne (tgt := 73) dL_call_62 (by decide) (by decide) (fun hb5 => ?_) (fun hb5 => ?_)
          · skip
            refine r_iload_n dL_call_73 rfl rfl ?_
            refine r_iconst dL_call_74 ?_
            refine r_icmp_ne (tgt := 85) dL_call_75 (by decide) (by decide) (fun hb6 => ?_) (fun hb6 => ?_)
            · skip
              refine r_iload_n dL_call_85 rfl rfl ?_
              refine r_bipush dL_call_86 rfl ?_
              refine r_icmp_ne (tgt := 99) dL_call_88 (by decide) (by decide) (fun hb7 => ?_) (fun hb7 => ?_)
              · skip
                refine r_iload_n dL_call_99 rfl rfl ?_
                refine r_bipush dL_call_100 rfl ?_
                refine r_icmp_ne (tgt := 112) dL_call_102 (by decide) (by decide) (fun hb8 => ?_) (fun hb8 => ?_)
                · skip
                  exact absurd hb8 (by omega)
                · skip
                  refine r_aload_n dL_call_105 rfl rfl ?_
                  refine r_callX (hh := hhC) (uX_load G σ hci ha) dL_call_106 svX7_load q405 sh0 (ci := 7) rfl rfl rfl ⟨Nat.le_of_ble_eq_true rfl, Nat.le_of_ble_eq_true rfl⟩ (Nat.le_of_ble_eq_true rfl) ⟨Nat.le_of_ble_eq_true rfl, Nat.le_of_ble_eq_true rfl⟩ ?_ ?_
                  · rintro _ τ ⟨⟨rfl, hE⟩ | ⟨rfl, hE⟩, hd⟩
                    · refine ⟨280, ⟨[_], _, _, _, rfl, fun z h => by rw [List.mem_singleton.mp h]; exact Or.inr ⟨Nat.succ_ne_zero _, _, q380, xc12⟩, rfl, Nat.succ_ne_zero _, q381, xs1, rfl⟩, fun q => ?_⟩
                      refine r_astoreq (lv' := [(0, Rf G 0), (1, I 7), (2, I z0), (3, I z1), (4, I z2), (5, I z3), (6, .ref q)]) dL_call_280 (Nat.le_of_ble_eq_true rfl) rfl ?_
                      refine r_bipush dL_call_282 rfl ?_
                      exact r_iret dL_call_284 rfl (by rw [hP]; exact ck_1 hE hd)
                    · refine ⟨285, ⟨[_, _], _, _, _, rfl, fun z h => by rcases List.mem_cons.mp h with rfl | h; exact Or.inr ⟨Nat.succ_ne_zero _, _, q380, xc32⟩; rw [List.mem_singleton.mp h]; exact Or.inr ⟨Nat.succ_ne_zero _, _, q381, xc31⟩, rfl, Nat.succ_ne_zero _, q382, xs3, rfl⟩, fun q => ?_⟩
                      refine r_astoreq (lv' := [(0, Rf G 0), (1, I 7), (2, I z0), (3, I z1), (4, I z2), (5, I z3), (6, .ref q)]) dL_call_285 (Nat.le_of_ble_eq_true rfl) rfl ?_
                      refine r_bipush dL_call_287 rfl ?_
                      exact r_iret dL_call_289 rfl (by rw [hP]; exact ck_2 hE hd)
                  · rintro _ s ⟨h1, rfl, h3⟩
                    refine r_goto (tgt := 274) dL_call_109 (by decide) ?_
                    exact r_iret dL_call_274 rfl (by rw [hP]; exact ck_ok h1 h3)
              · skip
                exact absurd hb7 (by omega)
            · skip
              exact absurd hb6 (by omega)
          · skip
            exact absurd hb5 (by omega)
        · skip
          exact absurd hb4 (by omega)
      · skip
        exact absurd hb3 (by omega)
    · skip
      exact absurd hb2 (by omega)
  · skip
    exact absurd hb1 (by omega)
theorem uX_keep (G : GT) (σ : Sg) (k : Int) {A : Ab} (hci : CI σ) (ha : absC σ = A) (hrg : (-2147483648 ≤ k ∧ k ≤ 2147483647)) : CtX G mX7_keep 6 (SH Ω) [Rf G 0, I k] σ (OkP σ (oKeep A k)) (ExP σ (oKeep A k) xE1 xE3) := by subst ha; exact tX7_keep G σ k hci hrg
set_option maxHeartbeats 1000000 in
set_option maxRecDepth 100000 in
theorem tL_call8 (G : GT) (σ : Sg) (k z0 z1 z2 : Int) {A : Ab} (hci : CI σ) (ha : absC σ = A) (hrg : (-2147483648 ≤ k ∧ k ≤ 2147483647)) : CtW G mL_call hhC 7 (SH Ω) [Rf G 0, I 8, I k, I z0, I z1, I z2] σ (CkP σ (oKeep A k) (-12) (-13)) := by
  obtain ⟨P, hP⟩ : ∃ P : Option Value → Sg → Prop, P = (CkP σ (oKeep A k) (-12) (-13)) := ⟨_, rfl⟩
  rw [← hP]
  refine ctw_of (lv := [(0, Rf G 0), (1, I 8), (2, I k), (3, I z0), (4, I z1), (5, I z2)]) (by decide +kernel) (Nat.le_of_ble_eq_true rfl) rfl ?_
  refine r_iload_n dL_call_0 rfl rfl ?_
  refine r_if_ne (tgt := 13) dL_call_1 (by decide) (by decide) (fun hb1 => ?_) (fun hb1 => ?_)
  · skip
    refine r_iload_n dL_call_13 rfl rfl ?_
    refine r_iconst dL_call_14 ?_
    refine r_icmp_ne (tgt := 29) dL_call_15 (by decide) (by decide) (fun hb2 => ?_) (fun hb2 => ?_)
    · skip
      refine r_iload_n dL_call_29 rfl rfl ?_
      refine r_iconst dL_call_30 ?_
      refine r_icmp_ne (tgt := 47) dL_call_31 (by decide) (by decide) (fun hb3 => ?_) (fun hb3 => ?_)
      · skip
        refine r_iload_n dL_call_47 rfl rfl ?_
        refine r_iconst dL_call_48 ?_
        refine r_icmp_ne (tgt := 60) dL_call_49 (by decide) (by decide) (fun hb4 => ?_) (fun hb4 => ?_)
        · skip
          refine r_iload_n dL_call_60 rfl rfl ?_
          refine r_iconst dL_call_61 ?_
          refine r_icmp_ne (tgt := 73) dL_call_62 (by decide) (by decide) (fun hb5 => ?_) (fun hb5 => ?_)
          · skip
            refine r_iload_n dL_call_73 rfl rfl ?_
            refine r_iconst dL_call_74 ?_
            refine r_icmp_ne (tgt := 85) dL_call_75 (by decide) (by decide) (fun hb6 => ?_) (fun hb6 => ?_)
            · skip
              refine r_iload_n dL_call_85 rfl rfl ?_
              refine r_bipush dL_call_86 rfl ?_
              refine r_icmp_ne (tgt := 99) dL_call_88 (by decide) (by decide) (fun hb7 => ?_) (fun hb7 => ?_)
              · skip
                refine r_iload_n dL_call_99 rfl rfl ?_
                refine r_bipush dL_call_100 rfl ?_
                refine r_icmp_ne (tgt := 112) dL_call_102 (by decide) (by decide) (fun hb8 => ?_) (fun hb8 => ?_)
                · skip
                  refine r_iload_n dL_call_112 rfl rfl ?_
                  refine r_bipush dL_call_113 rfl ?_
                  refine r_icmp_ne (tgt := 126) dL_call_115 (by decide) (by decide) (fun hb9 => ?_) (fun hb9 => ?_)
                  · skip
                    exact absurd hb9 (by omega)
                  · skip
                    refine r_aload_n dL_call_118 rfl rfl ?_
                    refine r_iload_n dL_call_119 rfl rfl ?_
                    refine r_callX (hh := hhC) (uX_keep G σ k hci ha hrg) dL_call_120 svX7_keep q324 sh0 (ci := 7) rfl rfl rfl ⟨Nat.le_of_ble_eq_true rfl, Nat.le_of_ble_eq_true rfl⟩ (Nat.le_of_ble_eq_true rfl) ⟨Nat.le_of_ble_eq_true rfl, Nat.le_of_ble_eq_true rfl⟩ ?_ ?_
                    · rintro _ τ ⟨⟨rfl, hE⟩ | ⟨rfl, hE⟩, hd⟩
                      · refine ⟨280, ⟨[_], _, _, _, rfl, fun z h => by rw [List.mem_singleton.mp h]; exact Or.inr ⟨Nat.succ_ne_zero _, _, q380, xc12⟩, rfl, Nat.succ_ne_zero _, q381, xs1, rfl⟩, fun q => ?_⟩
                        refine r_astoreq (lv' := [(0, Rf G 0), (1, I 8), (2, I k), (3, I z0), (4, I z1), (5, I z2), (6, .ref q)]) dL_call_280 (Nat.le_of_ble_eq_true rfl) rfl ?_
                        refine r_bipush dL_call_282 rfl ?_
                        exact r_iret dL_call_284 rfl (by rw [hP]; exact ck_1 hE hd)
                      · refine ⟨285, ⟨[_, _], _, _, _, rfl, fun z h => by rcases List.mem_cons.mp h with rfl | h; exact Or.inr ⟨Nat.succ_ne_zero _, _, q380, xc32⟩; rw [List.mem_singleton.mp h]; exact Or.inr ⟨Nat.succ_ne_zero _, _, q381, xc31⟩, rfl, Nat.succ_ne_zero _, q382, xs3, rfl⟩, fun q => ?_⟩
                        refine r_astoreq (lv' := [(0, Rf G 0), (1, I 8), (2, I k), (3, I z0), (4, I z1), (5, I z2), (6, .ref q)]) dL_call_285 (Nat.le_of_ble_eq_true rfl) rfl ?_
                        refine r_bipush dL_call_287 rfl ?_
                        exact r_iret dL_call_289 rfl (by rw [hP]; exact ck_2 hE hd)
                    · rintro _ s ⟨h1, rfl, h3⟩
                      refine r_goto (tgt := 274) dL_call_123 (by decide) ?_
                      exact r_iret dL_call_274 rfl (by rw [hP]; exact ck_ok h1 h3)
                · skip
                  exact absurd hb8 (by omega)
              · skip
                exact absurd hb7 (by omega)
            · skip
              exact absurd hb6 (by omega)
          · skip
            exact absurd hb5 (by omega)
        · skip
          exact absurd hb4 (by omega)
      · skip
        exact absurd hb3 (by omega)
    · skip
      exact absurd hb2 (by omega)
  · skip
    exact absurd hb1 (by omega)
theorem uX_goBack (G : GT) (σ : Sg) (k : Int) {A : Ab} (hci : CI σ) (ha : absC σ = A) (hrg : (-2147483648 ≤ k ∧ k ≤ 2147483647)) : CtX G mX7_goBack 6 (SH Ω) [Rf G 0, I k] σ (OkP σ (oBack A k)) (ExP σ (oBack A k) xE1 xE3) := by subst ha; exact tX7_goBack G σ k hci hrg
set_option maxHeartbeats 1000000 in
set_option maxRecDepth 100000 in
theorem tL_call9 (G : GT) (σ : Sg) (k z0 z1 z2 : Int) {A : Ab} (hci : CI σ) (ha : absC σ = A) (hrg : (-2147483648 ≤ k ∧ k ≤ 2147483647)) : CtW G mL_call hhC 7 (SH Ω) [Rf G 0, I 9, I k, I z0, I z1, I z2] σ (CkP σ (oBack A k) (-12) (-13)) := by
  obtain ⟨P, hP⟩ : ∃ P : Option Value → Sg → Prop, P = (CkP σ (oBack A k) (-12) (-13)) := ⟨_, rfl⟩
  rw [← hP]
  refine ctw_of (lv := [(0, Rf G 0), (1, I 9), (2, I k), (3, I z0), (4, I z1), (5, I z2)]) (by decide +kernel) (Nat.le_of_ble_eq_true rfl) rfl ?_
  refine r_iload_n dL_call_0 rfl rfl ?_
  refine r_if_ne (tgt := 13) dL_call_1 (by decide) (by decide) (fun hb1 => ?_) (fun hb1 => ?_)
  · skip
    refine r_iload_n dL_call_13 rfl rfl ?_
    refine r_iconst dL_call_14 ?_
    refine r_icmp_ne (tgt := 29) dL_call_15 (by decide) (by decide) (fun hb2 => ?_) (fun hb2 => ?_)
    · skip
      refine r_iload_n dL_call_29 rfl rfl ?_
      refine r_iconst dL_call_30 ?_
      refine r_icmp_ne (tgt := 47) dL_call_31 (by decide) (by decide) (fun hb3 => ?_) (fun hb3 => ?_)
      · skip
        refine r_iload_n dL_call_47 rfl rfl ?_
        refine r_iconst dL_call_48 ?_
        refine r_icmp_ne (tgt := 60) dL_call_49 (by decide) (by decide) (fun hb4 => ?_) (fun hb4 => ?_)
        · skip
          refine r_iload_n dL_call_60 rfl rfl ?_
          refine r_iconst dL_call_61 ?_
          refine r_icmp_ne (tgt := 73) dL_call_62 (by decide) (by decide) (fun hb5 => ?_) (fun hb5 => ?_)
          · skip
            refine r_iload_n dL_call_73 rfl rfl ?_
            refine r_iconst dL_call_74 ?_
            refine r_icmp_ne (tgt := 85) dL_call_75 (by decide) (by decide) (fun hb6 => ?_) (fun hb6 => ?_)
            · skip
              refine r_iload_n dL_call_85 rfl rfl ?_
              refine r_bipush dL_call_86 rfl ?_
              refine r_icmp_ne (tgt := 99) dL_call_88 (by decide) (by decide) (fun hb7 => ?_) (fun hb7 => ?_)
              · skip
                refine r_iload_n dL_call_99 rfl rfl ?_
                refine r_bipush dL_call_100 rfl ?_
                refine r_icmp_ne (tgt := 112) dL_call_102 (by decide) (by decide) (fun hb8 => ?_) (fun hb8 => ?_)
                · skip
                  refine r_iload_n dL_call_112 rfl rfl ?_
                  refine r_bipush dL_call_113 rfl ?_
                  refine r_icmp_ne (tgt := 126) dL_call_115 (by decide) (by decide) (fun hb9 => ?_) (fun hb9 => ?_)
                  · skip
                    refine r_iload_n dL_call_126 rfl rfl ?_
                    refine r_bipush dL_call_127 rfl ?_
                    refine r_icmp_ne (tgt := 140) dL_call_129 (by decide) (by decide) (fun hb10 => ?_) (fun hb10 => ?_)
                    · skip
                      exact absurd hb10 (by omega)
                    · skip
                      refine r_aload_n dL_call_132 rfl rfl ?_
                      refine r_iload_n dL_call_133 rfl rfl ?_
                      refine r_callX (hh := hhC) (uX_goBack G σ k hci ha hrg) dL_call_134 svX7_goBack q336 sh0 (ci := 7) rfl rfl rfl ⟨Nat.le_of_ble_eq_true rfl, Nat.le_of_ble_eq_true rfl⟩ (Nat.le_of_ble_eq_true rfl) ⟨Nat.le_of_ble_eq_true rfl, Nat.le_of_ble_eq_true rfl⟩ ?_ ?_
                      · rintro _ τ ⟨⟨rfl, hE⟩ | ⟨rfl, hE⟩, hd⟩
                        · refine ⟨280, ⟨[_], _, _, _, rfl, fun z h => by rw [List.mem_singleton.mp h]; exact Or.inr ⟨Nat.succ_ne_zero _, _, q380, xc12⟩, rfl, Nat.succ_ne_zero _, q381, xs1, rfl⟩, fun q => ?_⟩
                          refine r_astoreq (lv' := [(0, Rf G 0), (1, I 9), (2, I k), (3, I z0), (4, I z1), (5, I z2), (6, .ref q)]) dL_call_280 (Nat.le_of_ble_eq_true rfl) rfl ?_
                          refine r_bipush dL_call_282 rfl ?_
                          exact r_iret dL_call_284 rfl (by rw [hP]; exact ck_1 hE hd)
                        · refine ⟨285, ⟨[_, _], _, _, _, rfl, fun z h => by rcases List.mem_cons.mp h with rfl | h; exact Or.inr ⟨Nat.succ_ne_zero _, _, q380, xc32⟩; rw [List.mem_singleton.mp h]; exact Or.inr ⟨Nat.succ_ne_zero _, _, q381, xc31⟩, rfl, Nat.succ_ne_zero _, q382, xs3, rfl⟩, fun q => ?_⟩
                          refine r_astoreq (lv' := [(0, Rf G 0), (1, I 9), (2, I k), (3, I z0), (4, I z1), (5, I z2), (6, .ref q)]) dL_call_285 (Nat.le_of_ble_eq_true rfl) rfl ?_
                          refine r_bipush dL_call_287 rfl ?_
                          exact r_iret dL_call_289 rfl (by rw [hP]; exact ck_2 hE hd)
                      · rintro _ s ⟨h1, rfl, h3⟩
                        refine r_goto (tgt := 274) dL_call_137 (by decide) ?_
                        exact r_iret dL_call_274 rfl (by rw [hP]; exact ck_ok h1 h3)
                  · skip
                    exact absurd hb9 (by omega)
                · skip
                  exact absurd hb8 (by omega)
              · skip
                exact absurd hb7 (by omega)
            · skip
              exact absurd hb6 (by omega)
          · skip
            exact absurd hb5 (by omega)
        · skip
          exact absurd hb4 (by omega)
      · skip
        exact absurd hb3 (by omega)
    · skip
      exact absurd hb2 (by omega)
  · skip
    exact absurd hb1 (by omega)
theorem uX_undo (G : GT) (σ : Sg)  {A : Ab} (hci : CI σ) (ha : absC σ = A) : CtX G mX7_undo 6 (SH Ω) [Rf G 0] σ (OkP σ (oUndo A)) (ExP σ (oUndo A) xE3 xE3) := by subst ha; exact tX7_undo G σ hci
set_option maxHeartbeats 1000000 in
set_option maxRecDepth 100000 in
theorem tL_call10 (G : GT) (σ : Sg) (z0 z1 z2 z3 : Int) {A : Ab} (hci : CI σ) (ha : absC σ = A) : CtW G mL_call hhC 7 (SH Ω) [Rf G 0, I 10, I z0, I z1, I z2, I z3] σ (CkP σ (oUndo A) (-13) (-13)) := by
  obtain ⟨P, hP⟩ : ∃ P : Option Value → Sg → Prop, P = (CkP σ (oUndo A) (-13) (-13)) := ⟨_, rfl⟩
  rw [← hP]
  refine ctw_of (lv := [(0, Rf G 0), (1, I 10), (2, I z0), (3, I z1), (4, I z2), (5, I z3)]) (by decide +kernel) (Nat.le_of_ble_eq_true rfl) rfl ?_
  refine r_iload_n dL_call_0 rfl rfl ?_
  refine r_if_ne (tgt := 13) dL_call_1 (by decide) (by decide) (fun hb1 => ?_) (fun hb1 => ?_)
  · skip
    refine r_iload_n dL_call_13 rfl rfl ?_
    refine r_iconst dL_call_14 ?_
    refine r_icmp_ne (tgt := 29) dL_call_15 (by decide) (by decide) (fun hb2 => ?_) (fun hb2 => ?_)
    · skip
      refine r_iload_n dL_call_29 rfl rfl ?_
      refine r_iconst dL_call_30 ?_
      refine r_icmp_ne (tgt := 47) dL_call_31 (by decide) (by decide) (fun hb3 => ?_) (fun hb3 => ?_)
      · skip
        refine r_iload_n dL_call_47 rfl rfl ?_
        refine r_iconst dL_call_48 ?_
        refine r_icmp_ne (tgt := 60) dL_call_49 (by decide) (by decide) (fun hb4 => ?_) (fun hb4 => ?_)
        · skip
          refine r_iload_n dL_call_60 rfl rfl ?_
          refine r_iconst dL_call_61 ?_
          refine r_icmp_ne (tgt := 73) dL_call_62 (by decide) (by decide) (fun hb5 => ?_) (fun hb5 => ?_)
          · skip
            refine r_iload_n dL_call_73 rfl rfl ?_
            refine r_iconst dL_call_74 ?_
            refine r_icmp_ne (tgt := 85) dL_call_75 (by decide) (by decide) (fun hb6 => ?_) (fun hb6 => ?_)
            · skip
              refine r_iload_n dL_call_85 rfl rfl ?_
              refine r_bipush dL_call_86 rfl ?_
              refine r_icmp_ne (tgt := 99) dL_call_88 (by decide) (by decide) (fun hb7 => ?_) (fun hb7 => ?_)
              · skip
                refine r_iload_n dL_call_99 rfl rfl ?_
                refine r_bipush dL_call_100 rfl ?_
                refine r_icmp_ne (tgt := 112) dL_call_102 (by decide) (by decide) (fun hb8 => ?_) (fun hb8 => ?_)
                · skip
                  refine r_iload_n dL_call_112 rfl rfl ?_
                  refine r_bipush dL_call_113 rfl ?_
                  refine r_icmp_ne (tgt := 126) dL_call_115 (by decide) (by decide) (fun hb9 => ?_) (fun hb9 => ?_)
                  · skip
                    refine r_iload_n dL_call_126 rfl rfl ?_
                    refine r_bipush dL_call_127 rfl ?_
                    refine r_icmp_ne (tgt := 140) dL_call_129 (by decide) (by decide) (fun hb10 => ?_) (fun hb10 => ?_)
                    · skip
                      refine r_iload_n dL_call_140 rfl rfl ?_
                      refine r_bipush dL_call_141 rfl ?_
                      refine r_icmp_ne (tgt := 153) dL_call_143 (by decide) (by decide) (fun hb11 => ?_) (fun hb11 => ?_)
                      · skip
                        exact absurd hb11 (by omega)
                      · skip
                        refine r_aload_n dL_call_146 rfl rfl ?_
                        refine r_callX (hh := hhC) (uX_undo G σ hci ha) dL_call_147 svX7_undo q341 sh0 (ci := 7) rfl rfl rfl ⟨Nat.le_of_ble_eq_true rfl, Nat.le_of_ble_eq_true rfl⟩ (Nat.le_of_ble_eq_true rfl) ⟨Nat.le_of_ble_eq_true rfl, Nat.le_of_ble_eq_true rfl⟩ ?_ ?_
                        · rintro _ τ ⟨⟨rfl, hE⟩ | ⟨rfl, hE⟩, hd⟩
                          · refine ⟨285, ⟨[_, _], _, _, _, rfl, fun z h => by rcases List.mem_cons.mp h with rfl | h; exact Or.inr ⟨Nat.succ_ne_zero _, _, q380, xc32⟩; rw [List.mem_singleton.mp h]; exact Or.inr ⟨Nat.succ_ne_zero _, _, q381, xc31⟩, rfl, Nat.succ_ne_zero _, q382, xs3, rfl⟩, fun q => ?_⟩
                            refine r_astoreq (lv' := [(0, Rf G 0), (1, I 10), (2, I z0), (3, I z1), (4, I z2), (5, I z3), (6, .ref q)]) dL_call_285 (Nat.le_of_ble_eq_true rfl) rfl ?_
                            refine r_bipush dL_call_287 rfl ?_
                            exact r_iret dL_call_289 rfl (by rw [hP]; exact by first | exact ck_1 hE hd | exact ck_2 hE hd)
                          · refine ⟨285, ⟨[_, _], _, _, _, rfl, fun z h => by rcases List.mem_cons.mp h with rfl | h; exact Or.inr ⟨Nat.succ_ne_zero _, _, q380, xc32⟩; rw [List.mem_singleton.mp h]; exact Or.inr ⟨Nat.succ_ne_zero _, _, q381, xc31⟩, rfl, Nat.succ_ne_zero _, q382, xs3, rfl⟩, fun q => ?_⟩
                            refine r_astoreq (lv' := [(0, Rf G 0), (1, I 10), (2, I z0), (3, I z1), (4, I z2), (5, I z3), (6, .ref q)]) dL_call_285 (Nat.le_of_ble_eq_true rfl) rfl ?_
                            refine r_bipush dL_call_287 rfl ?_
                            exact r_iret dL_call_289 rfl (by rw [hP]; exact by first | exact ck_1 hE hd | exact ck_2 hE hd)
                        · rintro _ s ⟨h1, rfl, h3⟩
                          refine r_goto (tgt := 274) dL_call_150 (by decide) ?_
                          exact r_iret dL_call_274 rfl (by rw [hP]; exact ck_ok h1 h3)
                    · skip
                      exact absurd hb10 (by omega)
                  · skip
                    exact absurd hb9 (by omega)
                · skip
                  exact absurd hb8 (by omega)
              · skip
                exact absurd hb7 (by omega)
            · skip
              exact absurd hb6 (by omega)
          · skip
            exact absurd hb5 (by omega)
        · skip
          exact absurd hb4 (by omega)
      · skip
        exact absurd hb3 (by omega)
    · skip
      exact absurd hb2 (by omega)
  · skip
    exact absurd hb1 (by omega)
theorem uX_cell (G : GT) (σ : Sg) (r c : Int) {A : Ab} (hci : CI σ) (ha : absC σ = A) (hrg : (-2147483648 ≤ r ∧ r ≤ 2147483647) ∧ (-2147483648 ≤ c ∧ c ≤ 2147483647)) : CtX G mX7_cell 6 (SH Ω) [Rf G 0, I r, I c] σ (OkP σ (oCell A r c)) (ExP σ (oCell A r c) xE2 xE1) := by subst ha; exact tX7_cell G σ r c hci hrg
set_option maxHeartbeats 1000000 in
set_option maxRecDepth 100000 in
theorem tL_call11 (G : GT) (σ : Sg) (r c z0 z1 : Int) {A : Ab} (hci : CI σ) (ha : absC σ = A) (hrg : (-2147483648 ≤ r ∧ r ≤ 2147483647) ∧ (-2147483648 ≤ c ∧ c ≤ 2147483647)) : CtW G mL_call hhC 7 (SH Ω) [Rf G 0, I 11, I r, I c, I z0, I z1] σ (CkP σ (oCell A r c) (-11) (-12)) := by
  obtain ⟨P, hP⟩ : ∃ P : Option Value → Sg → Prop, P = (CkP σ (oCell A r c) (-11) (-12)) := ⟨_, rfl⟩
  rw [← hP]
  refine ctw_of (lv := [(0, Rf G 0), (1, I 11), (2, I r), (3, I c), (4, I z0), (5, I z1)]) (by decide +kernel) (Nat.le_of_ble_eq_true rfl) rfl ?_
  refine r_iload_n dL_call_0 rfl rfl ?_
  refine r_if_ne (tgt := 13) dL_call_1 (by decide) (by decide) (fun hb1 => ?_) (fun hb1 => ?_)
  · skip
    refine r_iload_n dL_call_13 rfl rfl ?_
    refine r_iconst dL_call_14 ?_
    refine r_icmp_ne (tgt := 29) dL_call_15 (by decide) (by decide) (fun hb2 => ?_) (fun hb2 => ?_)
    · skip
      refine r_iload_n dL_call_29 rfl rfl ?_
      refine r_iconst dL_call_30 ?_
      refine r_icmp_ne (tgt := 47) dL_call_31 (by decide) (by decide) (fun hb3 => ?_) (fun hb3 => ?_)
      · skip
        refine r_iload_n dL_call_47 rfl rfl ?_
        refine r_iconst dL_call_48 ?_
        refine r_icmp_ne (tgt := 60) dL_call_49 (by decide) (by decide) (fun hb4 => ?_) (fun hb4 => ?_)
        · skip
          refine r_iload_n dL_call_60 rfl rfl ?_
          refine r_iconst dL_call_61 ?_
          refine r_icmp_ne (tgt := 73) dL_call_62 (by decide) (by decide) (fun hb5 => ?_) (fun hb5 => ?_)
          · skip
            refine r_iload_n dL_call_73 rfl rfl ?_
            refine r_iconst dL_call_74 ?_
            refine r_icmp_ne (tgt := 85) dL_call_75 (by decide) (by decide) (fun hb6 => ?_) (fun hb6 => ?_)
            · skip
              refine r_iload_n dL_call_85 rfl rfl ?_
              refine r_bipush dL_call_86 rfl ?_
              refine r_icmp_ne (tgt := 99) dL_call_88 (by decide) (by decide) (fun hb7 => ?_) (fun hb7 => ?_)
              · skip
                refine r_iload_n dL_call_99 rfl rfl ?_
                refine r_bipush dL_call_100 rfl ?_
                refine r_icmp_ne (tgt := 112) dL_call_102 (by decide) (by decide) (fun hb8 => ?_) (fun hb8 => ?_)
                · skip
                  refine r_iload_n dL_call_112 rfl rfl ?_
                  refine r_bipush dL_call_113 rfl ?_
                  refine r_icmp_ne (tgt := 126) dL_call_115 (by decide) (by decide) (fun hb9 => ?_) (fun hb9 => ?_)
                  · skip
                    refine r_iload_n dL_call_126 rfl rfl ?_
                    refine r_bipush dL_call_127 rfl ?_
                    refine r_icmp_ne (tgt := 140) dL_call_129 (by decide) (by decide) (fun hb10 => ?_) (fun hb10 => ?_)
                    · skip
                      refine r_iload_n dL_call_140 rfl rfl ?_
                      refine r_bipush dL_call_141 rfl ?_
                      refine r_icmp_ne (tgt := 153) dL_call_143 (by decide) (by decide) (fun hb11 => ?_) (fun hb11 => ?_)
                      · skip
                        refine r_iload_n dL_call_153 rfl rfl ?_
                        refine r_bipush dL_call_154 rfl ?_
                        refine r_icmp_ne (tgt := 168) dL_call_156 (by decide) (by decide) (fun hb12 => ?_) (fun hb12 => ?_)
                        · skip
                          exact absurd hb12 (by omega)
                        · skip
                          refine r_aload_n dL_call_159 rfl rfl ?_
                          refine r_iload_n dL_call_160 rfl rfl ?_
                          refine r_iload_n dL_call_161 rfl rfl ?_
                          refine r_callX (hh := hhC) (uX_cell G σ r c hci ha hrg) dL_call_162 svX7_cell q454 sh0 (ci := 7) rfl rfl rfl ⟨Nat.le_of_ble_eq_true rfl, Nat.le_of_ble_eq_true rfl⟩ (Nat.le_of_ble_eq_true rfl) ⟨Nat.le_of_ble_eq_true rfl, Nat.le_of_ble_eq_true rfl⟩ ?_ ?_
                          · rintro _ τ ⟨⟨rfl, hE⟩ | ⟨rfl, hE⟩, hd⟩
                            · refine ⟨275, ⟨[], _, _, _, rfl, fun z h => absurd h List.not_mem_nil, rfl, Nat.succ_ne_zero _, q380, xs2, rfl⟩, fun q => ?_⟩
                              refine r_astoreq (lv' := [(0, Rf G 0), (1, I 11), (2, I r), (3, I c), (4, I z0), (5, I z1), (6, .ref q)]) dL_call_275 (Nat.le_of_ble_eq_true rfl) rfl ?_
                              refine r_bipush dL_call_277 rfl ?_
                              exact r_iret dL_call_279 rfl (by rw [hP]; exact ck_1 hE hd)
                            · refine ⟨280, ⟨[_], _, _, _, rfl, fun z h => by rw [List.mem_singleton.mp h]; exact Or.inr ⟨Nat.succ_ne_zero _, _, q380, xc12⟩, rfl, Nat.succ_ne_zero _, q381, xs1, rfl⟩, fun q => ?_⟩
                              refine r_astoreq (lv' := [(0, Rf G 0), (1, I 11), (2, I r), (3, I c), (4, I z0), (5, I z1), (6, .ref q)]) dL_call_280 (Nat.le_of_ble_eq_true rfl) rfl ?_
                              refine r_bipush dL_call_282 rfl ?_
                              exact r_iret dL_call_284 rfl (by rw [hP]; exact ck_2 hE hd)
                          · rintro _ s ⟨h1, rfl, h3⟩
                            refine r_goto (tgt := 274) dL_call_165 (by decide) ?_
                            exact r_iret dL_call_274 rfl (by rw [hP]; exact ck_ok h1 h3)
                      · skip
                        exact absurd hb11 (by omega)
                    · skip
                      exact absurd hb10 (by omega)
                  · skip
                    exact absurd hb9 (by omega)
                · skip
                  exact absurd hb8 (by omega)
              · skip
                exact absurd hb7 (by omega)
            · skip
              exact absurd hb6 (by omega)
          · skip
            exact absurd hb5 (by omega)
        · skip
          exact absurd hb4 (by omega)
      · skip
        exact absurd hb3 (by omega)
    · skip
      exact absurd hb2 (by omega)
  · skip
    exact absurd hb1 (by omega)
theorem uX_place (G : GT) (σ : Sg) (r w : Int) {A : Ab} (hci : CI σ) (ha : absC σ = A) (hrg : (-2147483648 ≤ r ∧ r ≤ 2147483647) ∧ (-2147483648 ≤ w ∧ w ≤ 2147483647)) : CtX G mX7_place 16 (SH Ω) [Rf G 0, I r, I w] σ (OkP σ (oPlace A r w)) (ExP σ (oPlace A r w) xE2 xE1) := by subst ha; exact tX7_place G σ r w hci hrg
set_option maxHeartbeats 1000000 in
set_option maxRecDepth 100000 in
theorem tL_call12 (G : GT) (σ : Sg) (r w z0 z1 : Int) {A : Ab} (hci : CI σ) (ha : absC σ = A) (hrg : (-2147483648 ≤ r ∧ r ≤ 2147483647) ∧ (-2147483648 ≤ w ∧ w ≤ 2147483647)) : CtW G mL_call hhC 17 (SH Ω) [Rf G 0, I 12, I r, I w, I z0, I z1] σ (CkP σ (oPlace A r w) (-11) (-12)) := by
  obtain ⟨P, hP⟩ : ∃ P : Option Value → Sg → Prop, P = (CkP σ (oPlace A r w) (-11) (-12)) := ⟨_, rfl⟩
  rw [← hP]
  refine ctw_of (lv := [(0, Rf G 0), (1, I 12), (2, I r), (3, I w), (4, I z0), (5, I z1)]) (by decide +kernel) (Nat.le_of_ble_eq_true rfl) rfl ?_
  refine r_iload_n dL_call_0 rfl rfl ?_
  refine r_if_ne (tgt := 13) dL_call_1 (by decide) (by decide) (fun hb1 => ?_) (fun hb1 => ?_)
  · skip
    refine r_iload_n dL_call_13 rfl rfl ?_
    refine r_iconst dL_call_14 ?_
    refine r_icmp_ne (tgt := 29) dL_call_15 (by decide) (by decide) (fun hb2 => ?_) (fun hb2 => ?_)
    · skip
      refine r_iload_n dL_call_29 rfl rfl ?_
      refine r_iconst dL_call_30 ?_
      refine r_icmp_ne (tgt := 47) dL_call_31 (by decide) (by decide) (fun hb3 => ?_) (fun hb3 => ?_)
      · skip
        refine r_iload_n dL_call_47 rfl rfl ?_
        refine r_iconst dL_call_48 ?_
        refine r_icmp_ne (tgt := 60) dL_call_49 (by decide) (by decide) (fun hb4 => ?_) (fun hb4 => ?_)
        · skip
          refine r_iload_n dL_call_60 rfl rfl ?_
          refine r_iconst dL_call_61 ?_
          refine r_icmp_ne (tgt := 73) dL_call_62 (by decide) (by decide) (fun hb5 => ?_) (fun hb5 => ?_)
          · skip
            refine r_iload_n dL_call_73 rfl rfl ?_
            refine r_iconst dL_call_74 ?_
            refine r_icmp_ne (tgt := 85) dL_call_75 (by decide) (by decide) (fun hb6 => ?_) (fun hb6 => ?_)
            · skip
              refine r_iload_n dL_call_85 rfl rfl ?_
              refine r_bipush dL_call_86 rfl ?_
              refine r_icmp_ne (tgt := 99) dL_call_88 (by decide) (by decide) (fun hb7 => ?_) (fun hb7 => ?_)
              · skip
                refine r_iload_n dL_call_99 rfl rfl ?_
                refine r_bipush dL_call_100 rfl ?_
                refine r_icmp_ne (tgt := 112) dL_call_102 (by decide) (by decide) (fun hb8 => ?_) (fun hb8 => ?_)
                · skip
                  refine r_iload_n dL_call_112 rfl rfl ?_
                  refine r_bipush dL_call_113 rfl ?_
                  refine r_icmp_ne (tgt := 126) dL_call_115 (by decide) (by decide) (fun hb9 => ?_) (fun hb9 => ?_)
                  · skip
                    refine r_iload_n dL_call_126 rfl rfl ?_
                    refine r_bipush dL_call_127 rfl ?_
                    refine r_icmp_ne (tgt := 140) dL_call_129 (by decide) (by decide) (fun hb10 => ?_) (fun hb10 => ?_)
                    · skip
                      refine r_iload_n dL_call_140 rfl rfl ?_
                      refine r_bipush dL_call_141 rfl ?_
                      refine r_icmp_ne (tgt := 153) dL_call_143 (by decide) (by decide) (fun hb11 => ?_) (fun hb11 => ?_)
                      · skip
                        refine r_iload_n dL_call_153 rfl rfl ?_
                        refine r_bipush dL_call_154 rfl ?_
                        refine r_icmp_ne (tgt := 168) dL_call_156 (by decide) (by decide) (fun hb12 => ?_) (fun hb12 => ?_)
                        · skip
                          refine r_iload_n dL_call_168 rfl rfl ?_
                          refine r_bipush dL_call_169 rfl ?_
                          refine r_icmp_ne (tgt := 183) dL_call_171 (by decide) (by decide) (fun hb13 => ?_) (fun hb13 => ?_)
                          · skip
                            exact absurd hb13 (by omega)
                          · skip
                            refine r_aload_n dL_call_174 rfl rfl ?_
                            refine r_iload_n dL_call_175 rfl rfl ?_
                            refine r_iload_n dL_call_176 rfl rfl ?_
                            refine r_callX (hh := hhC) (uX_place G σ r w hci ha hrg) dL_call_177 svX7_place q458 sh0 (ci := 7) rfl rfl rfl ⟨Nat.le_of_ble_eq_true rfl, Nat.le_of_ble_eq_true rfl⟩ (Nat.le_of_ble_eq_true rfl) ⟨Nat.le_of_ble_eq_true rfl, Nat.le_of_ble_eq_true rfl⟩ ?_ ?_
                            · rintro _ τ ⟨⟨rfl, hE⟩ | ⟨rfl, hE⟩, hd⟩
                              · refine ⟨275, ⟨[], _, _, _, rfl, fun z h => absurd h List.not_mem_nil, rfl, Nat.succ_ne_zero _, q380, xs2, rfl⟩, fun q => ?_⟩
                                refine r_astoreq (lv' := [(0, Rf G 0), (1, I 12), (2, I r), (3, I w), (4, I z0), (5, I z1), (6, .ref q)]) dL_call_275 (Nat.le_of_ble_eq_true rfl) rfl ?_
                                refine r_bipush dL_call_277 rfl ?_
                                exact r_iret dL_call_279 rfl (by rw [hP]; exact ck_1 hE hd)
                              · refine ⟨280, ⟨[_], _, _, _, rfl, fun z h => by rw [List.mem_singleton.mp h]; exact Or.inr ⟨Nat.succ_ne_zero _, _, q380, xc12⟩, rfl, Nat.succ_ne_zero _, q381, xs1, rfl⟩, fun q => ?_⟩
                                refine r_astoreq (lv' := [(0, Rf G 0), (1, I 12), (2, I r), (3, I w), (4, I z0), (5, I z1), (6, .ref q)]) dL_call_280 (Nat.le_of_ble_eq_true rfl) rfl ?_
                                refine r_bipush dL_call_282 rfl ?_
                                exact r_iret dL_call_284 rfl (by rw [hP]; exact ck_2 hE hd)
                            · rintro _ s ⟨h1, rfl, h3⟩
                              refine r_goto (tgt := 274) dL_call_180 (by decide) ?_
                              exact r_iret dL_call_274 rfl (by rw [hP]; exact ck_ok h1 h3)
                        · skip
                          exact absurd hb12 (by omega)
                      · skip
                        exact absurd hb11 (by omega)
                    · skip
                      exact absurd hb10 (by omega)
                  · skip
                    exact absurd hb9 (by omega)
                · skip
                  exact absurd hb8 (by omega)
              · skip
                exact absurd hb7 (by omega)
            · skip
              exact absurd hb6 (by omega)
          · skip
            exact absurd hb5 (by omega)
        · skip
          exact absurd hb4 (by omega)
      · skip
        exact absurd hb3 (by omega)
    · skip
      exact absurd hb2 (by omega)
  · skip
    exact absurd hb1 (by omega)
theorem uX_looks (G : GT) (σ : Sg) (w : Int) {A : Ab} (hci : CI σ) (ha : absC σ = A) (hrg : (-2147483648 ≤ w ∧ w ≤ 2147483647)) : CtX G mX7_looks 16 (SH Ω) [Rf G 0, I w] σ (OkP σ (oLooks A w)) (ExP σ (oLooks A w) xE1 xE3) := by subst ha; exact tX7_looks G σ w hci hrg
set_option maxHeartbeats 1000000 in
set_option maxRecDepth 100000 in
theorem tL_call13 (G : GT) (σ : Sg) (w z0 z1 z2 : Int) {A : Ab} (hci : CI σ) (ha : absC σ = A) (hrg : (-2147483648 ≤ w ∧ w ≤ 2147483647)) : CtW G mL_call hhC 17 (SH Ω) [Rf G 0, I 13, I w, I z0, I z1, I z2] σ (CkP σ (oLooks A w) (-12) (-13)) := by
  obtain ⟨P, hP⟩ : ∃ P : Option Value → Sg → Prop, P = (CkP σ (oLooks A w) (-12) (-13)) := ⟨_, rfl⟩
  rw [← hP]
  refine ctw_of (lv := [(0, Rf G 0), (1, I 13), (2, I w), (3, I z0), (4, I z1), (5, I z2)]) (by decide +kernel) (Nat.le_of_ble_eq_true rfl) rfl ?_
  refine r_iload_n dL_call_0 rfl rfl ?_
  refine r_if_ne (tgt := 13) dL_call_1 (by decide) (by decide) (fun hb1 => ?_) (fun hb1 => ?_)
  · skip
    refine r_iload_n dL_call_13 rfl rfl ?_
    refine r_iconst dL_call_14 ?_
    refine r_icmp_ne (tgt := 29) dL_call_15 (by decide) (by decide) (fun hb2 => ?_) (fun hb2 => ?_)
    · skip
      refine r_iload_n dL_call_29 rfl rfl ?_
      refine r_iconst dL_call_30 ?_
      refine r_icmp_ne (tgt := 47) dL_call_31 (by decide) (by decide) (fun hb3 => ?_) (fun hb3 => ?_)
      · skip
        refine r_iload_n dL_call_47 rfl rfl ?_
        refine r_iconst dL_call_48 ?_
        refine r_icmp_ne (tgt := 60) dL_call_49 (by decide) (by decide) (fun hb4 => ?_) (fun hb4 => ?_)
        · skip
          refine r_iload_n dL_call_60 rfl rfl ?_
          refine r_iconst dL_call_61 ?_
          refine r_icmp_ne (tgt := 73) dL_call_62 (by decide) (by decide) (fun hb5 => ?_) (fun hb5 => ?_)
          · skip
            refine r_iload_n dL_call_73 rfl rfl ?_
            refine r_iconst dL_call_74 ?_
            refine r_icmp_ne (tgt := 85) dL_call_75 (by decide) (by decide) (fun hb6 => ?_) (fun hb6 => ?_)
            · skip
              refine r_iload_n dL_call_85 rfl rfl ?_
              refine r_bipush dL_call_86 rfl ?_
              refine r_icmp_ne (tgt := 99) dL_call_88 (by decide) (by decide) (fun hb7 => ?_) (fun hb7 => ?_)
              · skip
                refine r_iload_n dL_call_99 rfl rfl ?_
                refine r_bipush dL_call_100 rfl ?_
                refine r_icmp_ne (tgt := 112) dL_call_102 (by decide) (by decide) (fun hb8 => ?_) (fun hb8 => ?_)
                · skip
                  refine r_iload_n dL_call_112 rfl rfl ?_
                  refine r_bipush dL_call_113 rfl ?_
                  refine r_icmp_ne (tgt := 126) dL_call_115 (by decide) (by decide) (fun hb9 => ?_) (fun hb9 => ?_)
                  · skip
                    refine r_iload_n dL_call_126 rfl rfl ?_
                    refine r_bipush dL_call_127 rfl ?_
                    refine r_icmp_ne (tgt := 140) dL_call_129 (by decide) (by decide) (fun hb10 => ?_) (fun hb10 => ?_)
                    · skip
                      refine r_iload_n dL_call_140 rfl rfl ?_
                      refine r_bipush dL_call_141 rfl ?_
                      refine r_icmp_ne (tgt := 153) dL_call_143 (by decide) (by decide) (fun hb11 => ?_) (fun hb11 => ?_)
                      · skip
                        refine r_iload_n dL_call_153 rfl rfl ?_
                        refine r_bipush dL_call_154 rfl ?_
                        refine r_icmp_ne (tgt := 168) dL_call_156 (by decide) (by decide) (fun hb12 => ?_) (fun hb12 => ?_)
                        · skip
                          refine r_iload_n dL_call_168 rfl rfl ?_
                          refine r_bipush dL_call_169 rfl ?_
                          refine r_icmp_ne (tgt := 183) dL_call_171 (by decide) (by decide) (fun hb13 => ?_) (fun hb13 => ?_)
                          · skip
                            refine r_iload_n dL_call_183 rfl rfl ?_
                            refine r_bipush dL_call_184 rfl ?_
                            refine r_icmp_ne (tgt := 197) dL_call_186 (by decide) (by decide) (fun hb14 => ?_) (fun hb14 => ?_)
                            · skip
                              exact absurd hb14 (by omega)
                            · skip
                              refine r_aload_n dL_call_189 rfl rfl ?_
                              refine r_iload_n dL_call_190 rfl rfl ?_
                              refine r_callX (hh := hhC) (uX_looks G σ w hci ha hrg) dL_call_191 svX7_looks q463 sh0 (ci := 7) rfl rfl rfl ⟨Nat.le_of_ble_eq_true rfl, Nat.le_of_ble_eq_true rfl⟩ (Nat.le_of_ble_eq_true rfl) ⟨Nat.le_of_ble_eq_true rfl, Nat.le_of_ble_eq_true rfl⟩ ?_ ?_
                              · rintro _ τ ⟨⟨rfl, hE⟩ | ⟨rfl, hE⟩, hd⟩
                                · refine ⟨280, ⟨[_], _, _, _, rfl, fun z h => by rw [List.mem_singleton.mp h]; exact Or.inr ⟨Nat.succ_ne_zero _, _, q380, xc12⟩, rfl, Nat.succ_ne_zero _, q381, xs1, rfl⟩, fun q => ?_⟩
                                  refine r_astoreq (lv' := [(0, Rf G 0), (1, I 13), (2, I w), (3, I z0), (4, I z1), (5, I z2), (6, .ref q)]) dL_call_280 (Nat.le_of_ble_eq_true rfl) rfl ?_
                                  refine r_bipush dL_call_282 rfl ?_
                                  exact r_iret dL_call_284 rfl (by rw [hP]; exact ck_1 hE hd)
                                · refine ⟨285, ⟨[_, _], _, _, _, rfl, fun z h => by rcases List.mem_cons.mp h with rfl | h; exact Or.inr ⟨Nat.succ_ne_zero _, _, q380, xc32⟩; rw [List.mem_singleton.mp h]; exact Or.inr ⟨Nat.succ_ne_zero _, _, q381, xc31⟩, rfl, Nat.succ_ne_zero _, q382, xs3, rfl⟩, fun q => ?_⟩
                                  refine r_astoreq (lv' := [(0, Rf G 0), (1, I 13), (2, I w), (3, I z0), (4, I z1), (5, I z2), (6, .ref q)]) dL_call_285 (Nat.le_of_ble_eq_true rfl) rfl ?_
                                  refine r_bipush dL_call_287 rfl ?_
                                  exact r_iret dL_call_289 rfl (by rw [hP]; exact ck_2 hE hd)
                              · rintro _ s ⟨h1, rfl, h3⟩
                                refine r_goto (tgt := 274) dL_call_194 (by decide) ?_
                                exact r_iret dL_call_274 rfl (by rw [hP]; exact ck_ok h1 h3)
                          · skip
                            exact absurd hb13 (by omega)
                        · skip
                          exact absurd hb12 (by omega)
                      · skip
                        exact absurd hb11 (by omega)
                    · skip
                      exact absurd hb10 (by omega)
                  · skip
                    exact absurd hb9 (by omega)
                · skip
                  exact absurd hb8 (by omega)
              · skip
                exact absurd hb7 (by omega)
            · skip
              exact absurd hb6 (by omega)
          · skip
            exact absurd hb5 (by omega)
        · skip
          exact absurd hb4 (by omega)
      · skip
        exact absurd hb3 (by omega)
    · skip
      exact absurd hb2 (by omega)
  · skip
    exact absurd hb1 (by omega)
theorem uX_witness (G : GT) (σ : Sg) (k : Int) {A : Ab} (hci : CI σ) (ha : absC σ = A) (hrg : (-2147483648 ≤ k ∧ k ≤ 2147483647)) : CtX G mX7_witness 6 (SH Ω) [Rf G 0, I k] σ (OkP σ (oWitness A k)) (ExP σ (oWitness A k) xE1 xE3) := by subst ha; exact tX7_witness G σ k hci hrg
set_option maxHeartbeats 1000000 in
set_option maxRecDepth 100000 in
theorem tL_call14 (G : GT) (σ : Sg) (k z0 z1 z2 : Int) {A : Ab} (hci : CI σ) (ha : absC σ = A) (hrg : (-2147483648 ≤ k ∧ k ≤ 2147483647)) : CtW G mL_call hhC 7 (SH Ω) [Rf G 0, I 14, I k, I z0, I z1, I z2] σ (CkP σ (oWitness A k) (-12) (-13)) := by
  obtain ⟨P, hP⟩ : ∃ P : Option Value → Sg → Prop, P = (CkP σ (oWitness A k) (-12) (-13)) := ⟨_, rfl⟩
  rw [← hP]
  refine ctw_of (lv := [(0, Rf G 0), (1, I 14), (2, I k), (3, I z0), (4, I z1), (5, I z2)]) (by decide +kernel) (Nat.le_of_ble_eq_true rfl) rfl ?_
  refine r_iload_n dL_call_0 rfl rfl ?_
  refine r_if_ne (tgt := 13) dL_call_1 (by decide) (by decide) (fun hb1 => ?_) (fun hb1 => ?_)
  · skip
    refine r_iload_n dL_call_13 rfl rfl ?_
    refine r_iconst dL_call_14 ?_
    refine r_icmp_ne (tgt := 29) dL_call_15 (by decide) (by decide) (fun hb2 => ?_) (fun hb2 => ?_)
    · skip
      refine r_iload_n dL_call_29 rfl rfl ?_
      refine r_iconst dL_call_30 ?_
      refine r_icmp_ne (tgt := 47) dL_call_31 (by decide) (by decide) (fun hb3 => ?_) (fun hb3 => ?_)
      · skip
        refine r_iload_n dL_call_47 rfl rfl ?_
        refine r_iconst dL_call_48 ?_
        refine r_icmp_ne (tgt := 60) dL_call_49 (by decide) (by decide) (fun hb4 => ?_) (fun hb4 => ?_)
        · skip
          refine r_iload_n dL_call_60 rfl rfl ?_
          refine r_iconst dL_call_61 ?_
          refine r_icmp_ne (tgt := 73) dL_call_62 (by decide) (by decide) (fun hb5 => ?_) (fun hb5 => ?_)
          · skip
            refine r_iload_n dL_call_73 rfl rfl ?_
            refine r_iconst dL_call_74 ?_
            refine r_icmp_ne (tgt := 85) dL_call_75 (by decide) (by decide) (fun hb6 => ?_) (fun hb6 => ?_)
            · skip
              refine r_iload_n dL_call_85 rfl rfl ?_
              refine r_bipush dL_call_86 rfl ?_
              refine r_icmp_ne (tgt := 99) dL_call_88 (by decide) (by decide) (fun hb7 => ?_) (fun hb7 => ?_)
              · skip
                refine r_iload_n dL_call_99 rfl rfl ?_
                refine r_bipush dL_call_100 rfl ?_
                refine r_icmp_ne (tgt := 112) dL_call_102 (by decide) (by decide) (fun hb8 => ?_) (fun hb8 => ?_)
                · skip
                  refine r_iload_n dL_call_112 rfl rfl ?_
                  refine r_bipush dL_call_113 rfl ?_
                  refine r_icmp_ne (tgt := 126) dL_call_115 (by decide) (by decide) (fun hb9 => ?_) (fun hb9 => ?_)
                  · skip
                    refine r_iload_n dL_call_126 rfl rfl ?_
                    refine r_bipush dL_call_127 rfl ?_
                    refine r_icmp_ne (tgt := 140) dL_call_129 (by decide) (by decide) (fun hb10 => ?_) (fun hb10 => ?_)
                    · skip
                      refine r_iload_n dL_call_140 rfl rfl ?_
                      refine r_bipush dL_call_141 rfl ?_
                      refine r_icmp_ne (tgt := 153) dL_call_143 (by decide) (by decide) (fun hb11 => ?_) (fun hb11 => ?_)
                      · skip
                        refine r_iload_n dL_call_153 rfl rfl ?_
                        refine r_bipush dL_call_154 rfl ?_
                        refine r_icmp_ne (tgt := 168) dL_call_156 (by decide) (by decide) (fun hb12 => ?_) (fun hb12 => ?_)
                        · skip
                          refine r_iload_n dL_call_168 rfl rfl ?_
                          refine r_bipush dL_call_169 rfl ?_
                          refine r_icmp_ne (tgt := 183) dL_call_171 (by decide) (by decide) (fun hb13 => ?_) (fun hb13 => ?_)
                          · skip
                            refine r_iload_n dL_call_183 rfl rfl ?_
                            refine r_bipush dL_call_184 rfl ?_
                            refine r_icmp_ne (tgt := 197) dL_call_186 (by decide) (by decide) (fun hb14 => ?_) (fun hb14 => ?_)
                            · skip
                              refine r_iload_n dL_call_197 rfl rfl ?_
                              refine r_bipush dL_call_198 rfl ?_
                              refine r_icmp_ne (tgt := 211) dL_call_200 (by decide) (by decide) (fun hb15 => ?_) (fun hb15 => ?_)
                              · skip
                                exact absurd hb15 (by omega)
                              · skip
                                refine r_aload_n dL_call_203 rfl rfl ?_
                                refine r_iload_n dL_call_204 rfl rfl ?_
                                refine r_callX (hh := hhC) (uX_witness G σ k hci ha hrg) dL_call_205 svX7_witness q467 sh0 (ci := 7) rfl rfl rfl ⟨Nat.le_of_ble_eq_true rfl, Nat.le_of_ble_eq_true rfl⟩ (Nat.le_of_ble_eq_true rfl) ⟨Nat.le_of_ble_eq_true rfl, Nat.le_of_ble_eq_true rfl⟩ ?_ ?_
                                · rintro _ τ ⟨⟨rfl, hE⟩ | ⟨rfl, hE⟩, hd⟩
                                  · refine ⟨280, ⟨[_], _, _, _, rfl, fun z h => by rw [List.mem_singleton.mp h]; exact Or.inr ⟨Nat.succ_ne_zero _, _, q380, xc12⟩, rfl, Nat.succ_ne_zero _, q381, xs1, rfl⟩, fun q => ?_⟩
                                    refine r_astoreq (lv' := [(0, Rf G 0), (1, I 14), (2, I k), (3, I z0), (4, I z1), (5, I z2), (6, .ref q)]) dL_call_280 (Nat.le_of_ble_eq_true rfl) rfl ?_
                                    refine r_bipush dL_call_282 rfl ?_
                                    exact r_iret dL_call_284 rfl (by rw [hP]; exact ck_1 hE hd)
                                  · refine ⟨285, ⟨[_, _], _, _, _, rfl, fun z h => by rcases List.mem_cons.mp h with rfl | h; exact Or.inr ⟨Nat.succ_ne_zero _, _, q380, xc32⟩; rw [List.mem_singleton.mp h]; exact Or.inr ⟨Nat.succ_ne_zero _, _, q381, xc31⟩, rfl, Nat.succ_ne_zero _, q382, xs3, rfl⟩, fun q => ?_⟩
                                    refine r_astoreq (lv' := [(0, Rf G 0), (1, I 14), (2, I k), (3, I z0), (4, I z1), (5, I z2), (6, .ref q)]) dL_call_285 (Nat.le_of_ble_eq_true rfl) rfl ?_
                                    refine r_bipush dL_call_287 rfl ?_
                                    exact r_iret dL_call_289 rfl (by rw [hP]; exact ck_2 hE hd)
                                · rintro _ s ⟨h1, rfl, h3⟩
                                  refine r_goto (tgt := 274) dL_call_208 (by decide) ?_
                                  exact r_iret dL_call_274 rfl (by rw [hP]; exact ck_ok h1 h3)
                            · skip
                              exact absurd hb14 (by omega)
                          · skip
                            exact absurd hb13 (by omega)
                        · skip
                          exact absurd hb12 (by omega)
                      · skip
                        exact absurd hb11 (by omega)
                    · skip
                      exact absurd hb10 (by omega)
                  · skip
                    exact absurd hb9 (by omega)
                · skip
                  exact absurd hb8 (by omega)
              · skip
                exact absurd hb7 (by omega)
            · skip
              exact absurd hb6 (by omega)
          · skip
            exact absurd hb5 (by omega)
        · skip
          exact absurd hb4 (by omega)
      · skip
        exact absurd hb3 (by omega)
    · skip
      exact absurd hb2 (by omega)
  · skip
    exact absurd hb1 (by omega)
theorem uX_count (G : GT) (σ : Sg) (k : Int) {A : Ab} (hci : CI σ) (ha : absC σ = A) (hrg : (-2147483648 ≤ k ∧ k ≤ 2147483647)) : CtX G mX7_count 17 (SH Ω) [Rf G 0, I k] σ (OkP σ (oCount A k)) (ExP σ (oCount A k) xE1 xE3) := by subst ha; exact tX7_count G σ k hci hrg
set_option maxHeartbeats 1000000 in
set_option maxRecDepth 100000 in
theorem tL_call15 (G : GT) (σ : Sg) (k z0 z1 z2 : Int) {A : Ab} (hci : CI σ) (ha : absC σ = A) (hrg : (-2147483648 ≤ k ∧ k ≤ 2147483647)) : CtW G mL_call hhC 18 (SH Ω) [Rf G 0, I 15, I k, I z0, I z1, I z2] σ (CkP σ (oCount A k) (-12) (-13)) := by
  obtain ⟨P, hP⟩ : ∃ P : Option Value → Sg → Prop, P = (CkP σ (oCount A k) (-12) (-13)) := ⟨_, rfl⟩
  rw [← hP]
  refine ctw_of (lv := [(0, Rf G 0), (1, I 15), (2, I k), (3, I z0), (4, I z1), (5, I z2)]) (by decide +kernel) (Nat.le_of_ble_eq_true rfl) rfl ?_
  refine r_iload_n dL_call_0 rfl rfl ?_
  refine r_if_ne (tgt := 13) dL_call_1 (by decide) (by decide) (fun hb1 => ?_) (fun hb1 => ?_)
  · skip
    refine r_iload_n dL_call_13 rfl rfl ?_
    refine r_iconst dL_call_14 ?_
    refine r_icmp_ne (tgt := 29) dL_call_15 (by decide) (by decide) (fun hb2 => ?_) (fun hb2 => ?_)
    · skip
      refine r_iload_n dL_call_29 rfl rfl ?_
      refine r_iconst dL_call_30 ?_
      refine r_icmp_ne (tgt := 47) dL_call_31 (by decide) (by decide) (fun hb3 => ?_) (fun hb3 => ?_)
      · skip
        refine r_iload_n dL_call_47 rfl rfl ?_
        refine r_iconst dL_call_48 ?_
        refine r_icmp_ne (tgt := 60) dL_call_49 (by decide) (by decide) (fun hb4 => ?_) (fun hb4 => ?_)
        · skip
          refine r_iload_n dL_call_60 rfl rfl ?_
          refine r_iconst dL_call_61 ?_
          refine r_icmp_ne (tgt := 73) dL_call_62 (by decide) (by decide) (fun hb5 => ?_) (fun hb5 => ?_)
          · skip
            refine r_iload_n dL_call_73 rfl rfl ?_
            refine r_iconst dL_call_74 ?_
            refine r_icmp_ne (tgt := 85) dL_call_75 (by decide) (by decide) (fun hb6 => ?_) (fun hb6 => ?_)
            · skip
              refine r_iload_n dL_call_85 rfl rfl ?_
              refine r_bipush dL_call_86 rfl ?_
              refine r_icmp_ne (tgt := 99) dL_call_88 (by decide) (by decide) (fun hb7 => ?_) (fun hb7 => ?_)
              · skip
                refine r_iload_n dL_call_99 rfl rfl ?_
                refine r_bipush dL_call_100 rfl ?_
                refine r_icmp_ne (tgt := 112) dL_call_102 (by decide) (by decide) (fun hb8 => ?_) (fun hb8 => ?_)
                · skip
                  refine r_iload_n dL_call_112 rfl rfl ?_
                  refine r_bipush dL_call_113 rfl ?_
                  refine r_icmp_ne (tgt := 126) dL_call_115 (by decide) (by decide) (fun hb9 => ?_) (fun hb9 => ?_)
                  · skip
                    refine r_iload_n dL_call_126 rfl rfl ?_
                    refine r_bipush dL_call_127 rfl ?_
                    refine r_icmp_ne (tgt := 140) dL_call_129 (by decide) (by decide) (fun hb10 => ?_) (fun hb10 => ?_)
                    · skip
                      refine r_iload_n dL_call_140 rfl rfl ?_
                      refine r_bipush dL_call_141 rfl ?_
                      refine r_icmp_ne (tgt := 153) dL_call_143 (by decide) (by decide) (fun hb11 => ?_) (fun hb11 => ?_)
                      · skip
                        refine r_iload_n dL_call_153 rfl rfl ?_
                        refine r_bipush dL_call_154 rfl ?_
                        refine r_icmp_ne (tgt := 168) dL_call_156 (by decide) (by decide) (fun hb12 => ?_) (fun hb12 => ?_)
                        · skip
                          refine r_iload_n dL_call_168 rfl rfl ?_
                          refine r_bipush dL_call_169 rfl ?_
                          refine r_icmp_ne (tgt := 183) dL_call_171 (by decide) (by decide) (fun hb13 => ?_) (fun hb13 => ?_)
                          · skip
                            refine r_iload_n dL_call_183 rfl rfl ?_
                            refine r_bipush dL_call_184 rfl ?_
                            refine r_icmp_ne (tgt := 197) dL_call_186 (by decide) (by decide) (fun hb14 => ?_) (fun hb14 => ?_)
                            · skip
                              refine r_iload_n dL_call_197 rfl rfl ?_
                              refine r_bipush dL_call_198 rfl ?_
                              refine r_icmp_ne (tgt := 211) dL_call_200 (by decide) (by decide) (fun hb15 => ?_) (fun hb15 => ?_)
                              · skip
                                refine r_iload_n dL_call_211 rfl rfl ?_
                                refine r_bipush dL_call_212 rfl ?_
                                refine r_icmp_ne (tgt := 225) dL_call_214 (by decide) (by decide) (fun hb16 => ?_) (fun hb16 => ?_)
                                · skip
                                  exact absurd hb16 (by omega)
                                · skip
                                  refine r_aload_n dL_call_217 rfl rfl ?_
                                  refine r_iload_n dL_call_218 rfl rfl ?_
                                  refine r_callX (hh := hhC) (uX_count G σ k hci ha hrg) dL_call_219 svX7_count q349 sh0 (ci := 7) rfl rfl rfl ⟨Nat.le_of_ble_eq_true rfl, Nat.le_of_ble_eq_true rfl⟩ (Nat.le_of_ble_eq_true rfl) ⟨Nat.le_of_ble_eq_true rfl, Nat.le_of_ble_eq_true rfl⟩ ?_ ?_
                                  · rintro _ τ ⟨⟨rfl, hE⟩ | ⟨rfl, hE⟩, hd⟩
                                    · refine ⟨280, ⟨[_], _, _, _, rfl, fun z h => by rw [List.mem_singleton.mp h]; exact Or.inr ⟨Nat.succ_ne_zero _, _, q380, xc12⟩, rfl, Nat.succ_ne_zero _, q381, xs1, rfl⟩, fun q => ?_⟩
                                      refine r_astoreq (lv' := [(0, Rf G 0), (1, I 15), (2, I k), (3, I z0), (4, I z1), (5, I z2), (6, .ref q)]) dL_call_280 (Nat.le_of_ble_eq_true rfl) rfl ?_
                                      refine r_bipush dL_call_282 rfl ?_
                                      exact r_iret dL_call_284 rfl (by rw [hP]; exact ck_1 hE hd)
                                    · refine ⟨285, ⟨[_, _], _, _, _, rfl, fun z h => by rcases List.mem_cons.mp h with rfl | h; exact Or.inr ⟨Nat.succ_ne_zero _, _, q380, xc32⟩; rw [List.mem_singleton.mp h]; exact Or.inr ⟨Nat.succ_ne_zero _, _, q381, xc31⟩, rfl, Nat.succ_ne_zero _, q382, xs3, rfl⟩, fun q => ?_⟩
                                      refine r_astoreq (lv' := [(0, Rf G 0), (1, I 15), (2, I k), (3, I z0), (4, I z1), (5, I z2), (6, .ref q)]) dL_call_285 (Nat.le_of_ble_eq_true rfl) rfl ?_
                                      refine r_bipush dL_call_287 rfl ?_
                                      exact r_iret dL_call_289 rfl (by rw [hP]; exact ck_2 hE hd)
                                  · rintro _ s ⟨h1, rfl, h3⟩
                                    refine r_goto (tgt := 274) dL_call_222 (by decide) ?_
                                    exact r_iret dL_call_274 rfl (by rw [hP]; exact ck_ok h1 h3)
                              · skip
                                exact absurd hb15 (by omega)
                            · skip
                              exact absurd hb14 (by omega)
                          · skip
                            exact absurd hb13 (by omega)
                        · skip
                          exact absurd hb12 (by omega)
                      · skip
                        exact absurd hb11 (by omega)
                    · skip
                      exact absurd hb10 (by omega)
                  · skip
                    exact absurd hb9 (by omega)
                · skip
                  exact absurd hb8 (by omega)
              · skip
                exact absurd hb7 (by omega)
            · skip
              exact absurd hb6 (by omega)
          · skip
            exact absurd hb5 (by omega)
        · skip
          exact absurd hb4 (by omega)
      · skip
        exact absurd hb3 (by omega)
    · skip
      exact absurd hb2 (by omega)
  · skip
    exact absurd hb1 (by omega)
theorem uX_weight (G : GT) (σ : Sg) (i : Int) {A : Ab} (hci : CI σ) (ha : absC σ = A) (hrg : (-2147483648 ≤ i ∧ i ≤ 2147483647)) : CtX G mX7_weight 6 (SH Ω) [Rf G 0, I i] σ (OkP σ (oWeight A i)) (ExP σ (oWeight A i) xE2 xE1) := by subst ha; exact tX7_weight G σ i hci hrg
set_option maxHeartbeats 1000000 in
set_option maxRecDepth 100000 in
theorem tL_call16 (G : GT) (σ : Sg) (i z0 z1 z2 : Int) {A : Ab} (hci : CI σ) (ha : absC σ = A) (hrg : (-2147483648 ≤ i ∧ i ≤ 2147483647)) : CtW G mL_call hhC 7 (SH Ω) [Rf G 0, I 16, I i, I z0, I z1, I z2] σ (CkP σ (oWeight A i) (-11) (-12)) := by
  obtain ⟨P, hP⟩ : ∃ P : Option Value → Sg → Prop, P = (CkP σ (oWeight A i) (-11) (-12)) := ⟨_, rfl⟩
  rw [← hP]
  refine ctw_of (lv := [(0, Rf G 0), (1, I 16), (2, I i), (3, I z0), (4, I z1), (5, I z2)]) (by decide +kernel) (Nat.le_of_ble_eq_true rfl) rfl ?_
  refine r_iload_n dL_call_0 rfl rfl ?_
  refine r_if_ne (tgt := 13) dL_call_1 (by decide) (by decide) (fun hb1 => ?_) (fun hb1 => ?_)
  · skip
    refine r_iload_n dL_call_13 rfl rfl ?_
    refine r_iconst dL_call_14 ?_
    refine r_icmp_ne (tgt := 29) dL_call_15 (by decide) (by decide) (fun hb2 => ?_) (fun hb2 => ?_)
    · skip
      refine r_iload_n dL_call_29 rfl rfl ?_
      refine r_iconst dL_call_30 ?_
      refine r_icmp_ne (tgt := 47) dL_call_31 (by decide) (by decide) (fun hb3 => ?_) (fun hb3 => ?_)
      · skip
        refine r_iload_n dL_call_47 rfl rfl ?_
        refine r_iconst dL_call_48 ?_
        refine r_icmp_ne (tgt := 60) dL_call_49 (by decide) (by decide) (fun hb4 => ?_) (fun hb4 => ?_)
        · skip
          refine r_iload_n dL_call_60 rfl rfl ?_
          refine r_iconst dL_call_61 ?_
          refine r_icmp_ne (tgt := 73) dL_call_62 (by decide) (by decide) (fun hb5 => ?_) (fun hb5 => ?_)
          · skip
            refine r_iload_n dL_call_73 rfl rfl ?_
            refine r_iconst dL_call_74 ?_
            refine r_icmp_ne (tgt := 85) dL_call_75 (by decide) (by decide) (fun hb6 => ?_) (fun hb6 => ?_)
            · skip
              refine r_iload_n dL_call_85 rfl rfl ?_
              refine r_bipush dL_call_86 rfl ?_
              refine r_icmp_ne (tgt := 99) dL_call_88 (by decide) (by decide) (fun hb7 => ?_) (fun hb7 => ?_)
              · skip
                refine r_iload_n dL_call_99 rfl rfl ?_
                refine r_bipush dL_call_100 rfl ?_
                refine r_icmp_ne (tgt := 112) dL_call_102 (by decide) (by decide) (fun hb8 => ?_) (fun hb8 => ?_)
                · skip
                  refine r_iload_n dL_call_112 rfl rfl ?_
                  refine r_bipush dL_call_113 rfl ?_
                  refine r_icmp_ne (tgt := 126) dL_call_115 (by decide) (by decide) (fun hb9 => ?_) (fun hb9 => ?_)
                  · skip
                    refine r_iload_n dL_call_126 rfl rfl ?_
                    refine r_bipush dL_call_127 rfl ?_
                    refine r_icmp_ne (tgt := 140) dL_call_129 (by decide) (by decide) (fun hb10 => ?_) (fun hb10 => ?_)
                    · skip
                      refine r_iload_n dL_call_140 rfl rfl ?_
                      refine r_bipush dL_call_141 rfl ?_
                      refine r_icmp_ne (tgt := 153) dL_call_143 (by decide) (by decide) (fun hb11 => ?_) (fun hb11 => ?_)
                      · skip
                        refine r_iload_n dL_call_153 rfl rfl ?_
                        refine r_bipush dL_call_154 rfl ?_
                        refine r_icmp_ne (tgt := 168) dL_call_156 (by decide) (by decide) (fun hb12 => ?_) (fun hb12 => ?_)
                        · skip
                          refine r_iload_n dL_call_168 rfl rfl ?_
                          refine r_bipush dL_call_169 rfl ?_
                          refine r_icmp_ne (tgt := 183) dL_call_171 (by decide) (by decide) (fun hb13 => ?_) (fun hb13 => ?_)
                          · skip
                            refine r_iload_n dL_call_183 rfl rfl ?_
                            refine r_bipush dL_call_184 rfl ?_
                            refine r_icmp_ne (tgt := 197) dL_call_186 (by decide) (by decide) (fun hb14 => ?_) (fun hb14 => ?_)
                            · skip
                              refine r_iload_n dL_call_197 rfl rfl ?_
                              refine r_bipush dL_call_198 rfl ?_
                              refine r_icmp_ne (tgt := 211) dL_call_200 (by decide) (by decide) (fun hb15 => ?_) (fun hb15 => ?_)
                              · skip
                                refine r_iload_n dL_call_211 rfl rfl ?_
                                refine r_bipush dL_call_212 rfl ?_
                                refine r_icmp_ne (tgt := 225) dL_call_214 (by decide) (by decide) (fun hb16 => ?_) (fun hb16 => ?_)
                                · skip
                                  refine r_iload_n dL_call_225 rfl rfl ?_
                                  refine r_bipush dL_call_226 rfl ?_
                                  refine r_icmp_ne (tgt := 239) dL_call_228 (by decide) (by decide) (fun hb17 => ?_) (fun hb17 => ?_)
                                  · skip
                                    exact absurd hb17 (by omega)
                                  · skip
                                    refine r_aload_n dL_call_231 rfl rfl ?_
                                    refine r_iload_n dL_call_232 rfl rfl ?_
                                    refine r_callX (hh := hhC) (uX_weight G σ i hci ha hrg) dL_call_233 svX7_weight q475 sh0 (ci := 7) rfl rfl rfl ⟨Nat.le_of_ble_eq_true rfl, Nat.le_of_ble_eq_true rfl⟩ (Nat.le_of_ble_eq_true rfl) ⟨Nat.le_of_ble_eq_true rfl, Nat.le_of_ble_eq_true rfl⟩ ?_ ?_
                                    · rintro _ τ ⟨⟨rfl, hE⟩ | ⟨rfl, hE⟩, hd⟩
                                      · refine ⟨275, ⟨[], _, _, _, rfl, fun z h => absurd h List.not_mem_nil, rfl, Nat.succ_ne_zero _, q380, xs2, rfl⟩, fun q => ?_⟩
                                        refine r_astoreq (lv' := [(0, Rf G 0), (1, I 16), (2, I i), (3, I z0), (4, I z1), (5, I z2), (6, .ref q)]) dL_call_275 (Nat.le_of_ble_eq_true rfl) rfl ?_
                                        refine r_bipush dL_call_277 rfl ?_
                                        exact r_iret dL_call_279 rfl (by rw [hP]; exact ck_1 hE hd)
                                      · refine ⟨280, ⟨[_], _, _, _, rfl, fun z h => by rw [List.mem_singleton.mp h]; exact Or.inr ⟨Nat.succ_ne_zero _, _, q380, xc12⟩, rfl, Nat.succ_ne_zero _, q381, xs1, rfl⟩, fun q => ?_⟩
                                        refine r_astoreq (lv' := [(0, Rf G 0), (1, I 16), (2, I i), (3, I z0), (4, I z1), (5, I z2), (6, .ref q)]) dL_call_280 (Nat.le_of_ble_eq_true rfl) rfl ?_
                                        refine r_bipush dL_call_282 rfl ?_
                                        exact r_iret dL_call_284 rfl (by rw [hP]; exact ck_2 hE hd)
                                    · rintro _ s ⟨h1, rfl, h3⟩
                                      refine r_goto (tgt := 274) dL_call_236 (by decide) ?_
                                      exact r_iret dL_call_274 rfl (by rw [hP]; exact ck_ok h1 h3)
                                · skip
                                  exact absurd hb16 (by omega)
                              · skip
                                exact absurd hb15 (by omega)
                            · skip
                              exact absurd hb14 (by omega)
                          · skip
                            exact absurd hb13 (by omega)
                        · skip
                          exact absurd hb12 (by omega)
                      · skip
                        exact absurd hb11 (by omega)
                    · skip
                      exact absurd hb10 (by omega)
                  · skip
                    exact absurd hb9 (by omega)
                · skip
                  exact absurd hb8 (by omega)
              · skip
                exact absurd hb7 (by omega)
            · skip
              exact absurd hb6 (by omega)
          · skip
            exact absurd hb5 (by omega)
        · skip
          exact absurd hb4 (by omega)
      · skip
        exact absurd hb3 (by omega)
    · skip
      exact absurd hb2 (by omega)
  · skip
    exact absurd hb1 (by omega)
theorem uX_cost (G : GT) (σ : Sg) (p k : Int) {A : Ab} (hci : CI σ) (ha : absC σ = A) (hrg : (-2147483648 ≤ p ∧ p ≤ 2147483647) ∧ (-2147483648 ≤ k ∧ k ≤ 2147483647)) : CtX G mX7_cost 17 (SH Ω) [Rf G 0, I p, I k] σ (OkP σ (oCost A p k)) (ExP σ (oCost A p k) xE1 xE3) := by subst ha; exact tX7_cost G σ p k hci hrg
set_option maxHeartbeats 1000000 in
set_option maxRecDepth 100000 in
theorem tL_call17 (G : GT) (σ : Sg) (p k z0 z1 : Int) {A : Ab} (hci : CI σ) (ha : absC σ = A) (hrg : (-2147483648 ≤ p ∧ p ≤ 2147483647) ∧ (-2147483648 ≤ k ∧ k ≤ 2147483647)) : CtW G mL_call hhC 18 (SH Ω) [Rf G 0, I 17, I p, I k, I z0, I z1] σ (CkP σ (oCost A p k) (-12) (-13)) := by
  obtain ⟨P, hP⟩ : ∃ P : Option Value → Sg → Prop, P = (CkP σ (oCost A p k) (-12) (-13)) := ⟨_, rfl⟩
  rw [← hP]
  refine ctw_of (lv := [(0, Rf G 0), (1, I 17), (2, I p), (3, I k), (4, I z0), (5, I z1)]) (by decide +kernel) (Nat.le_of_ble_eq_true rfl) rfl ?_
  refine r_iload_n dL_call_0 rfl rfl ?_
  refine r_if_ne (tgt := 13) dL_call_1 (by decide) (by decide) (fun hb1 => ?_) (fun hb1 => ?_)
  · skip
    refine r_iload_n dL_call_13 rfl rfl ?_
    refine r_iconst dL_call_14 ?_
    refine r_icmp_ne (tgt := 29) dL_call_15 (by decide) (by decide) (fun hb2 => ?_) (fun hb2 => ?_)
    · skip
      refine r_iload_n dL_call_29 rfl rfl ?_
      refine r_iconst dL_call_30 ?_
      refine r_icmp_ne (tgt := 47) dL_call_31 (by decide) (by decide) (fun hb3 => ?_) (fun hb3 => ?_)
      · skip
        refine r_iload_n dL_call_47 rfl rfl ?_
        refine r_iconst dL_call_48 ?_
        refine r_icmp_ne (tgt := 60) dL_call_49 (by decide) (by decide) (fun hb4 => ?_) (fun hb4 => ?_)
        · skip
          refine r_iload_n dL_call_60 rfl rfl ?_
          refine r_iconst dL_call_61 ?_
          refine r_icmp_ne (tgt := 73) dL_call_62 (by decide) (by decide) (fun hb5 => ?_) (fun hb5 => ?_)
          · skip
            refine r_iload_n dL_call_73 rfl rfl ?_
            refine r_iconst dL_call_74 ?_
            refine r_icmp_ne (tgt := 85) dL_call_75 (by decide) (by decide) (fun hb6 => ?_) (fun hb6 => ?_)
            · skip
              refine r_iload_n dL_call_85 rfl rfl ?_
              refine r_bipush dL_call_86 rfl ?_
              refine r_icmp_ne (tgt := 99) dL_call_88 (by decide) (by decide) (fun hb7 => ?_) (fun hb7 => ?_)
              · skip
                refine r_iload_n dL_call_99 rfl rfl ?_
                refine r_bipush dL_call_100 rfl ?_
                refine r_icmp_ne (tgt := 112) dL_call_102 (by decide) (by decide) (fun hb8 => ?_) (fun hb8 => ?_)
                · skip
                  refine r_iload_n dL_call_112 rfl rfl ?_
                  refine r_bipush dL_call_113 rfl ?_
                  refine r_icmp_ne (tgt := 126) dL_call_115 (by decide) (by decide) (fun hb9 => ?_) (fun hb9 => ?_)
                  · skip
                    refine r_iload_n dL_call_126 rfl rfl ?_
                    refine r_bipush dL_call_127 rfl ?_
                    refine r_icmp_ne (tgt := 140) dL_call_129 (by decide) (by decide) (fun hb10 => ?_) (fun hb10 => ?_)
                    · skip
                      refine r_iload_n dL_call_140 rfl rfl ?_
                      refine r_bipush dL_call_141 rfl ?_
                      refine r_icmp_ne (tgt := 153) dL_call_143 (by decide) (by decide) (fun hb11 => ?_) (fun hb11 => ?_)
                      · skip
                        refine r_iload_n dL_call_153 rfl rfl ?_
                        refine r_bipush dL_call_154 rfl ?_
                        refine r_icmp_ne (tgt := 168) dL_call_156 (by decide) (by decide) (fun hb12 => ?_) (fun hb12 => ?_)
                        · skip
                          refine r_iload_n dL_call_168 rfl rfl ?_
                          refine r_bipush dL_call_169 rfl ?_
                          refine r_icmp_ne (tgt := 183) dL_call_171 (by decide) (by decide) (fun hb13 => ?_) (fun hb13 => ?_)
                          · skip
                            refine r_iload_n dL_call_183 rfl rfl ?_
                            refine r_bipush dL_call_184 rfl ?_
                            refine r_icmp_ne (tgt := 197) dL_call_186 (by decide) (by decide) (fun hb14 => ?_) (fun hb14 => ?_)
                            · skip
                              refine r_iload_n dL_call_197 rfl rfl ?_
                              refine r_bipush dL_call_198 rfl ?_
                              refine r_icmp_ne (tgt := 211) dL_call_200 (by decide) (by decide) (fun hb15 => ?_) (fun hb15 => ?_)
                              · skip
                                refine r_iload_n dL_call_211 rfl rfl ?_
                                refine r_bipush dL_call_212 rfl ?_
                                refine r_icmp_ne (tgt := 225) dL_call_214 (by decide) (by decide) (fun hb16 => ?_) (fun hb16 => ?_)
                                · skip
                                  refine r_iload_n dL_call_225 rfl rfl ?_
                                  refine r_bipush dL_call_226 rfl ?_
                                  refine r_icmp_ne (tgt := 239) dL_call_228 (by decide) (by decide) (fun hb17 => ?_) (fun hb17 => ?_)
                                  · skip
                                    refine r_iload_n dL_call_239 rfl rfl ?_
                                    refine r_bipush dL_call_240 rfl ?_
                                    refine r_icmp_ne (tgt := 254) dL_call_242 (by decide) (by decide) (fun hb18 => ?_) (fun hb18 => ?_)
                                    · skip
                                      exact absurd hb18 (by omega)
                                    · skip
                                      refine r_aload_n dL_call_245 rfl rfl ?_
                                      refine r_iload_n dL_call_246 rfl rfl ?_
                                      refine r_iload_n dL_call_247 rfl rfl ?_
                                      refine r_callX (hh := hhC) (uX_cost G σ p k hci ha hrg) dL_call_248 svX7_cost q479 sh0 (ci := 7) rfl rfl rfl ⟨Nat.le_of_ble_eq_true rfl, Nat.le_of_ble_eq_true rfl⟩ (Nat.le_of_ble_eq_true rfl) ⟨Nat.le_of_ble_eq_true rfl, Nat.le_of_ble_eq_true rfl⟩ ?_ ?_
                                      · rintro _ τ ⟨⟨rfl, hE⟩ | ⟨rfl, hE⟩, hd⟩
                                        · refine ⟨280, ⟨[_], _, _, _, rfl, fun z h => by rw [List.mem_singleton.mp h]; exact Or.inr ⟨Nat.succ_ne_zero _, _, q380, xc12⟩, rfl, Nat.succ_ne_zero _, q381, xs1, rfl⟩, fun q => ?_⟩
                                          refine r_astoreq (lv' := [(0, Rf G 0), (1, I 17), (2, I p), (3, I k), (4, I z0), (5, I z1), (6, .ref q)]) dL_call_280 (Nat.le_of_ble_eq_true rfl) rfl ?_
                                          refine r_bipush dL_call_282 rfl ?_
                                          exact r_iret dL_call_284 rfl (by rw [hP]; exact ck_1 hE hd)
                                        · refine ⟨285, ⟨[_, _], _, _, _, rfl, fun z h => by rcases List.mem_cons.mp h with rfl | h; exact Or.inr ⟨Nat.succ_ne_zero _, _, q380, xc32⟩; rw [List.mem_singleton.mp h]; exact Or.inr ⟨Nat.succ_ne_zero _, _, q381, xc31⟩, rfl, Nat.succ_ne_zero _, q382, xs3, rfl⟩, fun q => ?_⟩
                                          refine r_astoreq (lv' := [(0, Rf G 0), (1, I 17), (2, I p), (3, I k), (4, I z0), (5, I z1), (6, .ref q)]) dL_call_285 (Nat.le_of_ble_eq_true rfl) rfl ?_
                                          refine r_bipush dL_call_287 rfl ?_
                                          exact r_iret dL_call_289 rfl (by rw [hP]; exact ck_2 hE hd)
                                      · rintro _ s ⟨h1, rfl, h3⟩
                                        refine r_goto (tgt := 274) dL_call_251 (by decide) ?_
                                        exact r_iret dL_call_274 rfl (by rw [hP]; exact ck_ok h1 h3)
                                  · skip
                                    exact absurd hb17 (by omega)
                                · skip
                                  exact absurd hb16 (by omega)
                              · skip
                                exact absurd hb15 (by omega)
                            · skip
                              exact absurd hb14 (by omega)
                          · skip
                            exact absurd hb13 (by omega)
                        · skip
                          exact absurd hb12 (by omega)
                      · skip
                        exact absurd hb11 (by omega)
                    · skip
                      exact absurd hb10 (by omega)
                  · skip
                    exact absurd hb9 (by omega)
                · skip
                  exact absurd hb8 (by omega)
              · skip
                exact absurd hb7 (by omega)
            · skip
              exact absurd hb6 (by omega)
          · skip
            exact absurd hb5 (by omega)
        · skip
          exact absurd hb4 (by omega)
      · skip
        exact absurd hb3 (by omega)
    · skip
      exact absurd hb2 (by omega)
  · skip
    exact absurd hb1 (by omega)
theorem uX_cut (G : GT) (σ : Sg) (p c : Int) {A : Ab} (hci : CI σ) (ha : absC σ = A) (hrg : (-2147483648 ≤ p ∧ p ≤ 2147483647) ∧ (-2147483648 ≤ c ∧ c ≤ 2147483647)) : CtX G mX7_cut 6 (SH Ω) [Rf G 0, I p, I c] σ (OkP σ (oCut A p c)) (ExP σ (oCut A p c) xE1 xE3) := by subst ha; exact tX7_cut G σ p c hci hrg
set_option maxHeartbeats 1000000 in
set_option maxRecDepth 100000 in
theorem tL_call18 (G : GT) (σ : Sg) (p c z0 z1 : Int) {A : Ab} (hci : CI σ) (ha : absC σ = A) (hrg : (-2147483648 ≤ p ∧ p ≤ 2147483647) ∧ (-2147483648 ≤ c ∧ c ≤ 2147483647)) : CtW G mL_call hhC 7 (SH Ω) [Rf G 0, I 18, I p, I c, I z0, I z1] σ (CkP σ (oCut A p c) (-12) (-13)) := by
  obtain ⟨P, hP⟩ : ∃ P : Option Value → Sg → Prop, P = (CkP σ (oCut A p c) (-12) (-13)) := ⟨_, rfl⟩
  rw [← hP]
  refine ctw_of (lv := [(0, Rf G 0), (1, I 18), (2, I p), (3, I c), (4, I z0), (5, I z1)]) (by decide +kernel) (Nat.le_of_ble_eq_true rfl) rfl ?_
  refine r_iload_n dL_call_0 rfl rfl ?_
  refine r_if_ne (tgt := 13) dL_call_1 (by decide) (by decide) (fun hb1 => ?_) (fun hb1 => ?_)
  · skip
    refine r_iload_n dL_call_13 rfl rfl ?_
    refine r_iconst dL_call_14 ?_
    refine r_icmp_ne (tgt := 29) dL_call_15 (by decide) (by decide) (fun hb2 => ?_) (fun hb2 => ?_)
    · skip
      refine r_iload_n dL_call_29 rfl rfl ?_
      refine r_iconst dL_call_30 ?_
      refine r_icmp_ne (tgt := 47) dL_call_31 (by decide) (by decide) (fun hb3 => ?_) (fun hb3 => ?_)
      · skip
        refine r_iload_n dL_call_47 rfl rfl ?_
        refine r_iconst dL_call_48 ?_
        refine r_icmp_ne (tgt := 60) dL_call_49 (by decide) (by decide) (fun hb4 => ?_) (fun hb4 => ?_)
        · skip
          refine r_iload_n dL_call_60 rfl rfl ?_
          refine r_iconst dL_call_61 ?_
          refine r_icmp_ne (tgt := 73) dL_call_62 (by decide) (by decide) (fun hb5 => ?_) (fun hb5 => ?_)
          · skip
            refine r_iload_n dL_call_73 rfl rfl ?_
            refine r_iconst dL_call_74 ?_
            refine r_icmp_ne (tgt := 85) dL_call_75 (by decide) (by decide) (fun hb6 => ?_) (fun hb6 => ?_)
            · skip
              refine r_iload_n dL_call_85 rfl rfl ?_
              refine r_bipush dL_call_86 rfl ?_
              refine r_icmp_ne (tgt := 99) dL_call_88 (by decide) (by decide) (fun hb7 => ?_) (fun hb7 => ?_)
              · skip
                refine r_iload_n dL_call_99 rfl rfl ?_
                refine r_bipush dL_call_100 rfl ?_
                refine r_icmp_ne (tgt := 112) dL_call_102 (by decide) (by decide) (fun hb8 => ?_) (fun hb8 => ?_)
                · skip
                  refine r_iload_n dL_call_112 rfl rfl ?_
                  refine r_bipush dL_call_113 rfl ?_
                  refine r_icmp_ne (tgt := 126) dL_call_115 (by decide) (by decide) (fun hb9 => ?_) (fun hb9 => ?_)
                  · skip
                    refine r_iload_n dL_call_126 rfl rfl ?_
                    refine r_bipush dL_call_127 rfl ?_
                    refine r_icmp_ne (tgt := 140) dL_call_129 (by decide) (by decide) (fun hb10 => ?_) (fun hb10 => ?_)
                    · skip
                      refine r_iload_n dL_call_140 rfl rfl ?_
                      refine r_bipush dL_call_141 rfl ?_
                      refine r_icmp_ne (tgt := 153) dL_call_143 (by decide) (by decide) (fun hb11 => ?_) (fun hb11 => ?_)
                      · skip
                        refine r_iload_n dL_call_153 rfl rfl ?_
                        refine r_bipush dL_call_154 rfl ?_
                        refine r_icmp_ne (tgt := 168) dL_call_156 (by decide) (by decide) (fun hb12 => ?_) (fun hb12 => ?_)
                        · skip
                          refine r_iload_n dL_call_168 rfl rfl ?_
                          refine r_bipush dL_call_169 rfl ?_
                          refine r_icmp_ne (tgt := 183) dL_call_171 (by decide) (by decide) (fun hb13 => ?_) (fun hb13 => ?_)
                          · skip
                            refine r_iload_n dL_call_183 rfl rfl ?_
                            refine r_bipush dL_call_184 rfl ?_
                            refine r_icmp_ne (tgt := 197) dL_call_186 (by decide) (by decide) (fun hb14 => ?_) (fun hb14 => ?_)
                            · skip
                              refine r_iload_n dL_call_197 rfl rfl ?_
                              refine r_bipush dL_call_198 rfl ?_
                              refine r_icmp_ne (tgt := 211) dL_call_200 (by decide) (by decide) (fun hb15 => ?_) (fun hb15 => ?_)
                              · skip
                                refine r_iload_n dL_call_211 rfl rfl ?_
                                refine r_bipush dL_call_212 rfl ?_
                                refine r_icmp_ne (tgt := 225) dL_call_214 (by decide) (by decide) (fun hb16 => ?_) (fun hb16 => ?_)
                                · skip
                                  refine r_iload_n dL_call_225 rfl rfl ?_
                                  refine r_bipush dL_call_226 rfl ?_
                                  refine r_icmp_ne (tgt := 239) dL_call_228 (by decide) (by decide) (fun hb17 => ?_) (fun hb17 => ?_)
                                  · skip
                                    refine r_iload_n dL_call_239 rfl rfl ?_
                                    refine r_bipush dL_call_240 rfl ?_
                                    refine r_icmp_ne (tgt := 254) dL_call_242 (by decide) (by decide) (fun hb18 => ?_) (fun hb18 => ?_)
                                    · skip
                                      refine r_iload_n dL_call_254 rfl rfl ?_
                                      refine r_bipush dL_call_255 rfl ?_
                                      refine r_icmp_ne (tgt := 269) dL_call_257 (by decide) (by decide) (fun hb19 => ?_) (fun hb19 => ?_)
                                      · skip
                                        exact absurd hb19 (by omega)
                                      · skip
                                        refine r_aload_n dL_call_260 rfl rfl ?_
                                        refine r_iload_n dL_call_261 rfl rfl ?_
                                        refine r_iload_n dL_call_262 rfl rfl ?_
                                        refine r_callX (hh := hhC) (uX_cut G σ p c hci ha hrg) dL_call_263 svX7_cut q511 sh0 (ci := 7) rfl rfl rfl ⟨Nat.le_of_ble_eq_true rfl, Nat.le_of_ble_eq_true rfl⟩ (Nat.le_of_ble_eq_true rfl) ⟨Nat.le_of_ble_eq_true rfl, Nat.le_of_ble_eq_true rfl⟩ ?_ ?_
                                        · rintro _ τ ⟨⟨rfl, hE⟩ | ⟨rfl, hE⟩, hd⟩
                                          · refine ⟨280, ⟨[_], _, _, _, rfl, fun z h => by rw [List.mem_singleton.mp h]; exact Or.inr ⟨Nat.succ_ne_zero _, _, q380, xc12⟩, rfl, Nat.succ_ne_zero _, q381, xs1, rfl⟩, fun q => ?_⟩
                                            refine r_astoreq (lv' := [(0, Rf G 0), (1, I 18), (2, I p), (3, I c), (4, I z0), (5, I z1), (6, .ref q)]) dL_call_280 (Nat.le_of_ble_eq_true rfl) rfl ?_
                                            refine r_bipush dL_call_282 rfl ?_
                                            exact r_iret dL_call_284 rfl (by rw [hP]; exact ck_1 hE hd)
                                          · refine ⟨285, ⟨[_, _], _, _, _, rfl, fun z h => by rcases List.mem_cons.mp h with rfl | h; exact Or.inr ⟨Nat.succ_ne_zero _, _, q380, xc32⟩; rw [List.mem_singleton.mp h]; exact Or.inr ⟨Nat.succ_ne_zero _, _, q381, xc31⟩, rfl, Nat.succ_ne_zero _, q382, xs3, rfl⟩, fun q => ?_⟩
                                            refine r_astoreq (lv' := [(0, Rf G 0), (1, I 18), (2, I p), (3, I c), (4, I z0), (5, I z1), (6, .ref q)]) dL_call_285 (Nat.le_of_ble_eq_true rfl) rfl ?_
                                            refine r_bipush dL_call_287 rfl ?_
                                            exact r_iret dL_call_289 rfl (by rw [hP]; exact ck_2 hE hd)
                                        · rintro _ s ⟨h1, rfl, h3⟩
                                          refine r_goto (tgt := 274) dL_call_266 (by decide) ?_
                                          exact r_iret dL_call_274 rfl (by rw [hP]; exact ck_ok h1 h3)
                                    · skip
                                      exact absurd hb18 (by omega)
                                  · skip
                                    exact absurd hb17 (by omega)
                                · skip
                                  exact absurd hb16 (by omega)
                              · skip
                                exact absurd hb15 (by omega)
                            · skip
                              exact absurd hb14 (by omega)
                          · skip
                            exact absurd hb13 (by omega)
                        · skip
                          exact absurd hb12 (by omega)
                      · skip
                        exact absurd hb11 (by omega)
                    · skip
                      exact absurd hb10 (by omega)
                  · skip
                    exact absurd hb9 (by omega)
                · skip
                  exact absurd hb8 (by omega)
              · skip
                exact absurd hb7 (by omega)
            · skip
              exact absurd hb6 (by omega)
          · skip
            exact absurd hb5 (by omega)
        · skip
          exact absurd hb4 (by omega)
      · skip
        exact absurd hb3 (by omega)
    · skip
      exact absurd hb2 (by omega)
  · skip
    exact absurd hb1 (by omega)
theorem uX_fewestParts (G : GT) (σ : Sg) (m : Int) {A : Ab} (hci : CI σ) (ha : absC σ = A) (hrg : (-2147483648 ≤ m ∧ m ≤ 2147483647)) : CtX G mX7_fewestParts 6 (SH Ω) [Rf G 0, I m] σ (OkP σ (oFewest A m)) (ExP σ (oFewest A m) xE1 xE3) := by subst ha; exact tX7_fewestParts G σ m hci hrg
set_option maxHeartbeats 1000000 in
set_option maxRecDepth 100000 in
theorem tL_call19 (G : GT) (σ : Sg) (m z0 z1 z2 : Int) {A : Ab} (hci : CI σ) (ha : absC σ = A) (hrg : (-2147483648 ≤ m ∧ m ≤ 2147483647)) : CtW G mL_call hhC 7 (SH Ω) [Rf G 0, I 19, I m, I z0, I z1, I z2] σ (CkP σ (oFewest A m) (-12) (-13)) := by
  obtain ⟨P, hP⟩ : ∃ P : Option Value → Sg → Prop, P = (CkP σ (oFewest A m) (-12) (-13)) := ⟨_, rfl⟩
  rw [← hP]
  refine ctw_of (lv := [(0, Rf G 0), (1, I 19), (2, I m), (3, I z0), (4, I z1), (5, I z2)]) (by decide +kernel) (Nat.le_of_ble_eq_true rfl) rfl ?_
  refine r_iload_n dL_call_0 rfl rfl ?_
  refine r_if_ne (tgt := 13) dL_call_1 (by decide) (by decide) (fun hb1 => ?_) (fun hb1 => ?_)
  · skip
    refine r_iload_n dL_call_13 rfl rfl ?_
    refine r_iconst dL_call_14 ?_
    refine r_icmp_ne (tgt := 29) dL_call_15 (by decide) (by decide) (fun hb2 => ?_) (fun hb2 => ?_)
    · skip
      refine r_iload_n dL_call_29 rfl rfl ?_
      refine r_iconst dL_call_30 ?_
      refine r_icmp_ne (tgt := 47) dL_call_31 (by decide) (by decide) (fun hb3 => ?_) (fun hb3 => ?_)
      · skip
        refine r_iload_n dL_call_47 rfl rfl ?_
        refine r_iconst dL_call_48 ?_
        refine r_icmp_ne (tgt := 60) dL_call_49 (by decide) (by decide) (fun hb4 => ?_) (fun hb4 => ?_)
        · skip
          refine r_iload_n dL_call_60 rfl rfl ?_
          refine r_iconst dL_call_61 ?_
          refine r_icmp_ne (tgt := 73) dL_call_62 (by decide) (by decide) (fun hb5 => ?_) (fun hb5 => ?_)
          · skip
            refine r_iload_n dL_call_73 rfl rfl ?_
            refine r_iconst dL_call_74 ?_
            refine r_icmp_ne (tgt := 85) dL_call_75 (by decide) (by decide) (fun hb6 => ?_) (fun hb6 => ?_)
            · skip
              refine r_iload_n dL_call_85 rfl rfl ?_
              refine r_bipush dL_call_86 rfl ?_
              refine r_icmp_ne (tgt := 99) dL_call_88 (by decide) (by decide) (fun hb7 => ?_) (fun hb7 => ?_)
              · skip
                refine r_iload_n dL_call_99 rfl rfl ?_
                refine r_bipush dL_call_100 rfl ?_
                refine r_icmp_ne (tgt := 112) dL_call_102 (by decide) (by decide) (fun hb8 => ?_) (fun hb8 => ?_)
                · skip
                  refine r_iload_n dL_call_112 rfl rfl ?_
                  refine r_bipush dL_call_113 rfl ?_
                  refine r_icmp_ne (tgt := 126) dL_call_115 (by decide) (by decide) (fun hb9 => ?_) (fun hb9 => ?_)
                  · skip
                    refine r_iload_n dL_call_126 rfl rfl ?_
                    refine r_bipush dL_call_127 rfl ?_
                    refine r_icmp_ne (tgt := 140) dL_call_129 (by decide) (by decide) (fun hb10 => ?_) (fun hb10 => ?_)
                    · skip
                      refine r_iload_n dL_call_140 rfl rfl ?_
                      refine r_bipush dL_call_141 rfl ?_
                      refine r_icmp_ne (tgt := 153) dL_call_143 (by decide) (by decide) (fun hb11 => ?_) (fun hb11 => ?_)
                      · skip
                        refine r_iload_n dL_call_153 rfl rfl ?_
                        refine r_bipush dL_call_154 rfl ?_
                        refine r_icmp_ne (tgt := 168) dL_call_156 (by decide) (by decide) (fun hb12 => ?_) (fun hb12 => ?_)
                        · skip
                          refine r_iload_n dL_call_168 rfl rfl ?_
                          refine r_bipush dL_call_169 rfl ?_
                          refine r_icmp_ne (tgt := 183) dL_call_171 (by decide) (by decide) (fun hb13 => ?_) (fun hb13 => ?_)
                          · skip
                            refine r_iload_n dL_call_183 rfl rfl ?_
                            refine r_bipush dL_call_184 rfl ?_
                            refine r_icmp_ne (tgt := 197) dL_call_186 (by decide) (by decide) (fun hb14 => ?_) (fun hb14 => ?_)
                            · skip
                              refine r_iload_n dL_call_197 rfl rfl ?_
                              refine r_bipush dL_call_198 rfl ?_
                              refine r_icmp_ne (tgt := 211) dL_call_200 (by decide) (by decide) (fun hb15 => ?_) (fun hb15 => ?_)
                              · skip
                                refine r_iload_n dL_call_211 rfl rfl ?_
                                refine r_bipush dL_call_212 rfl ?_
                                refine r_icmp_ne (tgt := 225) dL_call_214 (by decide) (by decide) (fun hb16 => ?_) (fun hb16 => ?_)
                                · skip
                                  refine r_iload_n dL_call_225 rfl rfl ?_
                                  refine r_bipush dL_call_226 rfl ?_
                                  refine r_icmp_ne (tgt := 239) dL_call_228 (by decide) (by decide) (fun hb17 => ?_) (fun hb17 => ?_)
                                  · skip
                                    refine r_iload_n dL_call_239 rfl rfl ?_
                                    refine r_bipush dL_call_240 rfl ?_
                                    refine r_icmp_ne (tgt := 254) dL_call_242 (by decide) (by decide) (fun hb18 => ?_) (fun hb18 => ?_)
                                    · skip
                                      refine r_iload_n dL_call_254 rfl rfl ?_
                                      refine r_bipush dL_call_255 rfl ?_
                                      refine r_icmp_ne (tgt := 269) dL_call_257 (by decide) (by decide) (fun hb19 => ?_) (fun hb19 => ?_)
                                      · skip
                                        refine r_aload_n dL_call_269 rfl rfl ?_
                                        refine r_iload_n dL_call_270 rfl rfl ?_
                                        refine r_callX (hh := hhC) (uX_fewestParts G σ m hci ha hrg) dL_call_271 svX7_fewestParts q519 sh0 (ci := 7) rfl rfl rfl ⟨Nat.le_of_ble_eq_true rfl, Nat.le_of_ble_eq_true rfl⟩ (Nat.le_of_ble_eq_true rfl) ⟨Nat.le_of_ble_eq_true rfl, Nat.le_of_ble_eq_true rfl⟩ ?_ ?_
                                        · rintro _ τ ⟨⟨rfl, hE⟩ | ⟨rfl, hE⟩, hd⟩
                                          · refine ⟨280, ⟨[_], _, _, _, rfl, fun z h => by rw [List.mem_singleton.mp h]; exact Or.inr ⟨Nat.succ_ne_zero _, _, q380, xc12⟩, rfl, Nat.succ_ne_zero _, q381, xs1, rfl⟩, fun q => ?_⟩
                                            refine r_astoreq (lv' := [(0, Rf G 0), (1, I 19), (2, I m), (3, I z0), (4, I z1), (5, I z2), (6, .ref q)]) dL_call_280 (Nat.le_of_ble_eq_true rfl) rfl ?_
                                            refine r_bipush dL_call_282 rfl ?_
                                            exact r_iret dL_call_284 rfl (by rw [hP]; exact ck_1 hE hd)
                                          · refine ⟨285, ⟨[_, _], _, _, _, rfl, fun z h => by rcases List.mem_cons.mp h with rfl | h; exact Or.inr ⟨Nat.succ_ne_zero _, _, q380, xc32⟩; rw [List.mem_singleton.mp h]; exact Or.inr ⟨Nat.succ_ne_zero _, _, q381, xc31⟩, rfl, Nat.succ_ne_zero _, q382, xs3, rfl⟩, fun q => ?_⟩
                                            refine r_astoreq (lv' := [(0, Rf G 0), (1, I 19), (2, I m), (3, I z0), (4, I z1), (5, I z2), (6, .ref q)]) dL_call_285 (Nat.le_of_ble_eq_true rfl) rfl ?_
                                            refine r_bipush dL_call_287 rfl ?_
                                            exact r_iret dL_call_289 rfl (by rw [hP]; exact ck_2 hE hd)
                                        · rintro _ s ⟨h1, rfl, h3⟩
                                          exact r_iret dL_call_274 rfl (by rw [hP]; exact ck_ok h1 h3)
                                      · skip
                                        exact absurd hb19 (by omega)
                                    · skip
                                      exact absurd hb18 (by omega)
                                  · skip
                                    exact absurd hb17 (by omega)
                                · skip
                                  exact absurd hb16 (by omega)
                              · skip
                                exact absurd hb15 (by omega)
                            · skip
                              exact absurd hb14 (by omega)
                          · skip
                            exact absurd hb13 (by omega)
                        · skip
                          exact absurd hb12 (by omega)
                      · skip
                        exact absurd hb11 (by omega)
                    · skip
                      exact absurd hb10 (by omega)
                  · skip
                    exact absurd hb9 (by omega)
                · skip
                  exact absurd hb8 (by omega)
              · skip
                exact absurd hb7 (by omega)
            · skip
              exact absurd hb6 (by omega)
          · skip
            exact absurd hb5 (by omega)
        · skip
          exact absurd hb4 (by omega)
      · skip
        exact absurd hb3 (by omega)
    · skip
      exact absurd hb2 (by omega)
  · skip
    exact absurd hb1 (by omega)
