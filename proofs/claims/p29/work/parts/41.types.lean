variable {Ω : List Ob}

def cdA (w : Int) (j : Nat) : Int := w / 256 ^ (7 - j) % 256
/-- the characters of a word, up to eight -/
def cwd (w : Int) : Nat → List Int
  | 0 => []
  | j + 1 => cwd w j ++ (if cdA w j = 0 then [] else [cdA w j])
def okW (w : Int) : Bool := (List.range 8).all (fun j => decide (Int64.ofInt w >>> ((Int32.ofInt (56 - 8 * (j : Int))).toInt64 &&& 63) = Int64.ofInt (w / 256 ^ (7 - j)) ∧ Int64.ofInt (w / 256 ^ (7 - j)) &&& Int64.ofInt 255 = Int64.ofInt (cdA w j) ∧ (Int64.ofInt (cdA w j)).toInt32 = Int32.ofInt (cdA w j) ∧ (cdA w j = 0 ∨ 33 ≤ cdA w j ∧ cdA w j ≤ 126)))
theorem okW_at {w : Int} (h : okW w = true) {j : Nat} (hj : j < 8) : Int64.ofInt w >>> ((Int32.ofInt (56 - 8 * (j : Int))).toInt64 &&& 63) = Int64.ofInt (w / 256 ^ (7 - j)) ∧ Int64.ofInt (w / 256 ^ (7 - j)) &&& Int64.ofInt 255 = Int64.ofInt (cdA w j) ∧ (Int64.ofInt (cdA w j)).toInt32 = Int32.ofInt (cdA w j) ∧ (cdA w j = 0 ∨ 33 ≤ cdA w j ∧ cdA w j ≤ 126) := by
  unfold okW at h
  exact of_decide_eq_true (List.all_eq_true.mp h j (List.mem_range.mpr hj))
theorem cwd_len {w : Int} : ∀ j : Nat, (cwd w j).length ≤ j
  | 0 => Nat.le_refl _
  | j + 1 => by
    have := cwd_len (w := w) j
    simp only [cwd, List.length_append]
    split
    · simp; omega
    · simp; omega
theorem cwd_0 {w : Int} {j : Nat} (h : cdA w j = 0) : cwd w (j + 1) = cwd w j := by
  simp only [cwd]
  rw [if_pos h, List.append_nil]
theorem cwd_1 {w : Int} {j : Nat} (h : ¬ cdA w j = 0) : cwd w (j + 1) = cwd w j ++ [cdA w j] := by
  simp only [cwd]
  rw [if_neg h]
theorem setB_id {A : Ab} {w : Int} : setB A (A.2.2.2.2 ++ cwd w 0) = A := by
  show (A.1, A.2.1, A.2.2.1, A.2.2.2.1, A.2.2.2.2 ++ []) = A
  rw [List.append_nil]
theorem oAppend_y {A : Ab} {l : List Int} {c : Int} (hc : 33 ≤ c ∧ c ≤ 126) (hl : l.length < 60) : oAppend (setB A l) c = (0, (l.length : Int) + 1, setB A (l ++ [c])) := by
  unfold oAppend
  rw [if_pos hc]
  exact if_neg (show ¬ l.length = 60 by omega)

set_option maxHeartbeats 1000000 in
set_option maxRecDepth 100000 in
theorem tL_part (G : GT) (σ : Sg) (v n : Int) (h : 0 < n ∧ n ≤ 10000) : Ct G mL_part 1 0 0 false (SH Ω) (SH Ω) [I v, I n] σ (fun rv sv => (∃ f : Int, some (I f) = rv ∧ 0 ≤ f ∧ f < n) ∧ σ = sv) := by
  obtain ⟨P, hP⟩ : ∃ P : Option Value → Sg → Prop, P = (fun rv sv => (∃ f : Int, some (I f) = rv ∧ 0 ≤ f ∧ f < n) ∧ σ = sv) := ⟨_, rfl⟩
  rw [← hP]
  refine ct_of (lv := [(0, I v), (1, I n)]) (by decide +kernel) (Nat.le_of_ble_eq_true rfl) rfl ?_
  refine r_iload_n dL_part_0 rfl rfl ?_
  refine r_ldc (z := 2147483647) dL_part_1 q372 ?_
  refine r_andM dL_part_3 (fun z hz => ?_)
  refine r_iload_n dL_part_4 rfl rfl ?_
  refine r_irem dL_part_5 (by omega) ?_
  exact r_iret dL_part_6 rfl (by rw [hP]; exact ⟨⟨_, rfl, Int.emod_nonneg _ (by omega), Int.emod_lt_of_pos _ (by omega)⟩, rfl⟩)
set_option maxHeartbeats 1000000 in
set_option maxRecDepth 100000 in
theorem tL_drawn (G : GT) (σ : Sg) (b L : Nat) (xs : Nat → Int32) (k : Int) (hk : 0 ≤ k ∧ k ≤ 27) (hL : (L : Int) ≤ 260) : CtD G mL_drawn b L xs 1 (SH Ω) [.ref b, I k] σ (fun rv sv => (∃ f : Int, some (I f) = rv ∧ -2147483648 ≤ f ∧ f ≤ 2147483647) ∧ σ = sv) := by
  obtain ⟨P, hP⟩ : ∃ P : Option Value → Sg → Prop, P = (fun rv sv => (∃ f : Int, some (I f) = rv ∧ -2147483648 ≤ f ∧ f ≤ 2147483647) ∧ σ = sv) := ⟨_, rfl⟩
  rw [← hP]
  refine ctd_of (lv := [(0, .ref b), (1, I k)]) (by decide +kernel) (Nat.le_of_ble_eq_true rfl) rfl ?_
  refine r_aloadb_n dL_drawn_0 rfl rfl ?_
  refine r_slen ED_ed dL_drawn_1 ?_
  refine r_if_ne (tgt := 15) dL_drawn_2 (by decide) (by omega) (fun hb1 => ?_) (fun hb1 => ?_)
  · skip
    refine r_aloadb_n dL_drawn_15 rfl rfl ?_
    refine r_iload_n dL_drawn_16 rfl rfl ?_
    refine r_aloadb_n dL_drawn_17 rfl rfl ?_
    refine r_slen ED_ed dL_drawn_18 ?_
    refine r_irem dL_drawn_19 (by omega) ?_
    refine r_sld ED_ed dL_drawn_20 ⟨Int.emod_nonneg _ (by omega), Int.emod_lt_of_pos _ (by omega), by omega⟩ ?_
    refine r_iload_n dL_drawn_21 rfl rfl ?_
    refine r_bipush dL_drawn_22 rfl ?_
    refine r_irem dL_drawn_24 (by omega) ?_
    refine r_ishrA dL_drawn_25 (fun z1 hz1 => ?_)
    refine r_iload_n dL_drawn_26 rfl rfl ?_
    refine r_aloadb_n dL_drawn_27 rfl rfl ?_
    refine r_slen ED_ed dL_drawn_28 ?_
    refine r_idiv dL_drawn_29 (by omega) ?_
    refine r_bipush dL_drawn_30 rfl ?_
    refine r_imul dL_drawn_32 ?_
    refine r_ixorA dL_drawn_33 (fun z2 hz2 => ?_)
    refine r_iload_n dL_drawn_34 rfl rfl ?_
    refine r_ldc (z := 2654435) dL_drawn_35 q376 ?_
    refine r_imul dL_drawn_37 ?_
    refine r_ixorA dL_drawn_38 (fun z3 hz3 => ?_)
    exact r_iret dL_drawn_39 rfl (by rw [hP]; exact ⟨⟨_, rfl, hz3.1, hz3.2⟩, rfl⟩)
  · skip
    refine r_sipush dL_drawn_5 rfl ?_
    refine r_iload_n dL_drawn_8 rfl rfl ?_
    refine r_imul dL_drawn_9 ?_
    refine r_iconst dL_drawn_10 ?_
    refine r_iadd dL_drawn_11 ?_
    refine r_goto (tgt := 39) dL_drawn_12 (by decide) ?_
    exact r_iret dL_drawn_39 rfl (by rw [hP]; exact ⟨⟨_, rfl, by omega, by omega⟩, rfl⟩)
set_option maxHeartbeats 1000000 in
set_option maxRecDepth 100000 in
theorem tL_types (G : GT) (σ : Sg) (w : Int) {A : Ab} (hci : CI σ) (ha : absC σ = A) (hw0 : okW w = true) (hb : A.2.2.2.2.length + 8 ≤ 60) : CtY G mL_types 8 8 48 false false (SH Ω) (SH Ω) [Rf G 0, Lg w] σ (YP σ (I 1) (setB A (A.2.2.2.2 ++ cwd w 8))) := by
  obtain ⟨P, hP⟩ : ∃ P : Option Value → Sg → Prop, P = (YP σ (I 1) (setB A (A.2.2.2.2 ++ cwd w 8))) := ⟨_, rfl⟩
  rw [← hP]
  refine cty_of (lv := [(0, Rf G 0), (1, Lg w)]) (by decide +kernel) (Nat.le_of_ble_eq_true rfl) rfl ?_
  have hD : Done σ σ A := Done.rf hci ha
  have hO := hD.ok
  obtain ⟨⟨hR, hC, hW, hT, hTz, hw, hwz⟩, hO2⟩ := hO
  have L6 : ∀ (fu j : Nat) (s : Sg), j + fu = 8 → Done σ s (setB A (A.2.2.2.2 ++ cwd w j)) → Rn G mL_types (rmD 8 8 48) (EV G) (Zn G false (SH Ω) P 8 48) false (SH Ω) j (6 * j) 6 [(0, Rf G 0), (1, Lg w), (3, I 1), (4, I (56 - 8 * (j : Int)))] [] s := by
    intro fu
    induction fu with
    | zero =>
      intro j s hi hD
      refine r_iload dL_types_6 rfl ?_
      refine r_if_lt (tgt := 52) dL_types_8 (by decide) (by omega) (fun hb1 => ?_) (fun hb1 => absurd hb1 (by omega))
      refine r_iload_n dL_types_52 rfl rfl ?_
      obtain rfl : j = 8 := by omega
      refine r_widen (k2 := 8) (n2 := 48) (Nat.le_of_ble_eq_true rfl) (Nat.le_of_ble_eq_true rfl) ?_
      exact r_zret dL_types_53 rfl (by first | rfl | decide) (by rw [hP]; exact ⟨rfl, hD⟩)
    | succ fu ih =>
      intro j s hi hD
      obtain ⟨o1, o2, o3, o4⟩ := okW_at hw0 (j := j) (by omega)
      have hl9 := cwd_len (w := w) j
      have hl8 : (A.2.2.2.2 ++ cwd w j).length ≤ 60 := by rw [List.length_append]; omega
      refine r_iload dL_types_6 rfl ?_
      refine r_if_lt (tgt := 52) dL_types_8 (by decide) (by omega) (fun hb1 => absurd hb1 (by omega)) (fun hb1 => ?_)
      refine r_lload_n dL_types_11 rfl rfl ?_
      refine r_iload dL_types_12 rfl ?_
      refine r_lshrK (z := w / 256 ^ (7 - j)) dL_types_14 o1 ?_
      refine r_ldc2 (z := 255) dL_types_15 q584 ?_
      refine r_landK (z := cdA w j) dL_types_18 o2 ?_
      refine r_l2iK (z := cdA w j) dL_types_19 o3 ?_
      refine r_istore (lv' := [(0, Rf G 0), (1, Lg w), (3, I 1), (4, I (56 - 8 * (j : Int))), (5, I (cdA w j))]) dL_types_20 (Nat.le_of_ble_eq_true rfl) rfl ?_
      refine r_iload_n dL_types_22 rfl rfl ?_
      refine r_if_eq (tgt := 44) dL_types_23 (by decide) (by omega) (fun hb2 => absurd hb2 (by omega)) (fun hb2 => ?_)
      refine r_iload dL_types_26 rfl ?_
      refine r_if_eq (tgt := 40) dL_types_28 (by decide) (by omega) (fun hb3 => ?_) (fun hb3 => ?_)
      · skip
        refine r_iconst dL_types_40 ?_
        refine r_goto (tgt := 45) dL_types_41 (by decide) ?_
        refine r_istore_n (lv' := [(0, Rf G 0), (1, Lg w), (3, I 1), (4, I (56 - 8 * (j : Int))), (5, I (cdA w j))]) dL_types_45 rfl (Nat.le_of_ble_eq_true rfl) rfl ?_
        refine r_iinc (lv' := [(0, Rf G 0), (1, Lg w), (3, I 1), (4, I ((56 - 8 * (j : Int)) + (-8))), (5, I (cdA w j))]) dL_types_46 (Nat.le_of_ble_eq_true rfl) rfl rfl ?_
        refine r_goto (tgt := 6) dL_types_49 (by decide) ?_
        refine r_sub [0, 1, 2, 3] rfl ?_
        rw [show 56 - 8 * (j : Int) + (-8) = 56 - 8 * ((j + 1 : Nat) : Int) by omega]
        refine r_widen (k2 := j + 1) (n2 := 6 * (j + 1)) (by omega) (by omega) ?_
        exact ih (j + 1) s (by omega) (by rw [cwd_0 hb3]; exact hD)
      · skip
        refine r_aload_n dL_types_31 rfl rfl ?_
        refine r_iload dL_types_32 rfl ?_
        refine r_kX hD EV_ok (uX_append G _ (cdA w j) hD.1 hD.2.1 (by omega)) (oAppend_y (by omega) (by rw [List.length_append]; omega)) dL_types_34 svX7_append q396 sh0 (ci := 7) rfl rfl rfl ⟨Nat.le_of_ble_eq_true rfl, Nat.le_of_ble_eq_true rfl⟩ (Nat.le_of_ble_eq_true rfl) ⟨by simp only [rmD]; omega, by simp only [rmD]; omega⟩ (fun s4 hD4 => ?_)
        refine r_if_le (tgt := 44) dL_types_37 (by decide) (by omega) (fun hb5 => absurd hb5 (by omega)) (fun hb5 => ?_)
        refine r_iconst dL_types_40 ?_
        refine r_goto (tgt := 45) dL_types_41 (by decide) ?_
        refine r_istore_n (lv' := [(0, Rf G 0), (1, Lg w), (3, I 1), (4, I (56 - 8 * (j : Int))), (5, I (cdA w j))]) dL_types_45 rfl (Nat.le_of_ble_eq_true rfl) rfl ?_
        refine r_iinc (lv' := [(0, Rf G 0), (1, Lg w), (3, I 1), (4, I ((56 - 8 * (j : Int)) + (-8))), (5, I (cdA w j))]) dL_types_46 (Nat.le_of_ble_eq_true rfl) rfl rfl ?_
        refine r_goto (tgt := 6) dL_types_49 (by decide) ?_
        refine r_sub [0, 1, 2, 3] rfl ?_
        rw [show 56 - 8 * (j : Int) + (-8) = 56 - 8 * ((j + 1 : Nat) : Int) by omega]
        refine r_widen (k2 := j + 1) (n2 := 6 * (j + 1)) (by omega) (by omega) ?_
        exact ih (j + 1) s4 (by omega) (by rw [cwd_1 hb3, ← List.append_assoc]; exact hD4)
  refine r_iconst dL_types_0 ?_
  refine r_istore_n (lv' := [(0, Rf G 0), (1, Lg w), (3, I 1)]) dL_types_1 rfl (Nat.le_of_ble_eq_true rfl) rfl ?_
  refine r_bipush dL_types_2 rfl ?_
  refine r_istore (lv' := [(0, Rf G 0), (1, Lg w), (3, I 1), (4, I 56)]) dL_types_4 (Nat.le_of_ble_eq_true rfl) rfl ?_
  rw [show (56 : Int) = 56 - 8 * ((0 : Nat) : Int) from rfl]
  exact L6 8 0 σ rfl (by rw [setB_id]; exact hD)
set_option maxHeartbeats 1000000 in
set_option maxRecDepth 100000 in
theorem tL_isError (G : GT) (σ : Sg) (w1 w2 e : Int) {A : Ab} (hci : CI σ) (ha : absC σ = A) (h1 : okW w1 = true) (h2 : okW w2 = true) (he : erF (fun _ => 0) (gB (cwd w1 8 ++ cwd w2 8)) (cwd w1 8 ++ cwd w2 8).length = e) : CtY G mL_isError 9 20 120 false false (SH Ω) (SH Ω) [Rf G 0, Lg w1, Lg w2, I e] σ (YP σ (I 1) (setB A (cwd w1 8 ++ cwd w2 8))) := by
  obtain ⟨P, hP⟩ : ∃ P : Option Value → Sg → Prop, P = (YP σ (I 1) (setB A (cwd w1 8 ++ cwd w2 8))) := ⟨_, rfl⟩
  rw [← hP]
  refine cty_of (lv := [(0, Rf G 0), (1, Lg w1), (3, Lg w2), (5, I e)]) (by decide +kernel) (Nat.le_of_ble_eq_true rfl) rfl ?_
  have hD : Done σ σ A := Done.rf hci ha
  have hO := hD.ok
  obtain ⟨⟨hR, hC, hW, hT, hTz, hw, hwz⟩, hO2⟩ := hO
  have n1 := cwd_len (w := w1) 8
  have n2 := cwd_len (w := w2) 8
  refine r_aload_n dL_isError_0 rfl rfl ?_
  refine r_kO hD (uX_clearBuffer G _ hD.1 hD.2.1) (rfl) dL_isError_1 svX7_clearBuffer q577 sh0 (ci := 7) rfl rfl rfl ⟨Nat.le_of_ble_eq_true rfl, Nat.le_of_ble_eq_true rfl⟩ (Nat.le_of_ble_eq_true rfl) ⟨Nat.le_of_ble_eq_true rfl, Nat.le_of_ble_eq_true rfl⟩ (fun s1 hD1 => ?_)
  refine r_if_lt (tgt := 36) dL_isError_4 (by decide) (by omega) (fun hb2 => absurd hb2 (by omega)) (fun hb2 => ?_)
  refine r_aload_n dL_isError_7 rfl rfl ?_
  refine r_lload_n dL_isError_8 rfl rfl ?_
  refine r_kY hD1 EV_ok (tL_types G _ w1 hD1.1 hD1.2.1 h1 (by show (0 : Nat) + 8 ≤ 60; decide)) dL_isError_9 svL_types q581 rfl ⟨Nat.le_of_ble_eq_true rfl, Nat.le_of_ble_eq_true rfl⟩ (Nat.le_of_ble_eq_true rfl) ⟨Nat.le_of_ble_eq_true rfl, Nat.le_of_ble_eq_true rfl⟩ (fun s3 hD3 => ?_)
  have q1 : Done σ s3 (setB A (cwd w1 8)) := hD3
  refine r_if_eq (tgt := 36) dL_isError_12 (by decide) (by omega) (fun hb4 => absurd hb4 (by omega)) (fun hb4 => ?_)
  refine r_aload_n dL_isError_15 rfl rfl ?_
  refine r_lload_n dL_isError_16 rfl rfl ?_
  refine r_kY q1 EV_ok (tL_types G _ w2 q1.1 q1.2.1 h2 (by show (cwd w1 8).length + 8 ≤ 60; omega)) dL_isError_17 svL_types q581 rfl ⟨Nat.le_of_ble_eq_true rfl, Nat.le_of_ble_eq_true rfl⟩ (Nat.le_of_ble_eq_true rfl) ⟨Nat.le_of_ble_eq_true rfl, Nat.le_of_ble_eq_true rfl⟩ (fun s5 hD5 => ?_)
  have q2 : Done σ s5 (setB A (cwd w1 8 ++ cwd w2 8)) := hD5
  refine r_if_eq (tgt := 36) dL_isError_20 (by decide) (by omega) (fun hb6 => absurd hb6 (by omega)) (fun hb6 => ?_)
  refine r_aload_n dL_isError_23 rfl rfl ?_
  refine r_kO q2 (uX_firstError G _ q2.1 q2.2.1) (show (0, erF (fun _ => 0) (gB (cwd w1 8 ++ cwd w2 8)) (cwd w1 8 ++ cwd w2 8).length, setB A (cwd w1 8 ++ cwd w2 8)) = (0, e, setB A (cwd w1 8 ++ cwd w2 8)) by rw [he]) dL_isError_24 svX7_firstError q585 sh0 (ci := 7) rfl rfl rfl ⟨Nat.le_of_ble_eq_true rfl, Nat.le_of_ble_eq_true rfl⟩ (Nat.le_of_ble_eq_true rfl) ⟨Nat.le_of_ble_eq_true rfl, Nat.le_of_ble_eq_true rfl⟩ (fun s7 hD7 => ?_)
  refine r_iload dL_isError_27 rfl ?_
  refine r_icmp_neE (tgt := 36) dL_isError_29 (by decide) (rfl) ?_
  refine r_iconst dL_isError_32 ?_
  refine r_goto (tgt := 37) dL_isError_33 (by decide) ?_
  refine r_widen (k2 := 20) (n2 := 120) (Nat.le_of_ble_eq_true rfl) (Nat.le_of_ble_eq_true rfl) ?_
  exact r_zret dL_isError_37 rfl (by first | rfl | decide) (by rw [hP]; exact ⟨rfl, hD7⟩)
