theorem oSize_m {σ : Sg} {r c : Int} : oSize (absM σ) r c = if (1 ≤ r ∧ r ≤ 10) ∧ (1 ≤ c ∧ c ≤ 10) then (0, 11 * (σ 47 0) + (σ 47 1), svA (absM σ) (r, c, (st0 (σ 47)).2.2)) else (1, 0, (absM σ)) := rfl
theorem oPut_m {σ : Sg} {r c v : Int} : oPut (absM σ) r c v = if (0 ≤ r ∧ r < (σ 47 0)) ∧ (0 ≤ c ∧ c < (σ 47 1)) then (if 0 ≤ v ∧ v ≤ 9999 then (0, tM (σ 47) (10 * r + c), svA (absM σ) (setT (st0 (σ 47)) (fu (tM (σ 47)) (10 * r + c) v))) else (2, 0, (absM σ))) else (1, 0, (absM σ)) := rfl
theorem oPoints_m {σ : Sg} {a b c d : Int} : oPoints (absM σ) a b c d = if (0 ≤ a ∧ a ≤ 50) ∧ (0 ≤ b ∧ b ≤ 9) ∧ (0 ≤ c ∧ c ≤ 50) ∧ (0 ≤ d ∧ d ≤ 9) then
  (0, if Kp (σ 47 0) (σ 47 1) (ptF (σ 47 0) (σ 47 1) a b c d (tM (σ 47))) then 1 else 0, svA (absM σ) (setT (st0 (σ 47)) (ptF (σ 47 0) (σ 47 1) a b c d (tM (σ 47))))) else (1, 0, (absM σ)) := rfl
theorem oMend_m {σ : Sg} : oMend (absM σ) = if wF (st0 (σ 47)) = -1 then (0, -1, svA (absM σ) (st0 (σ 47))) else if 9999 < tM (σ 47) (10 * (wF (st0 (σ 47)) / 100 + 1) + wF (st0 (σ 47)) % 10) + 1 then (0, -1, svA (absM σ) (st0 (σ 47))) else
  (0, wF (st0 (σ 47)) / 100, svA (absM σ) ((σ 47 0), (σ 47 1), (σ 47 5), (σ 47 2), (σ 47 3), (σ 47 4) + 1, fu (tM (σ 47)) (10 * (wF (st0 (σ 47)) / 100 + 1) + wF (st0 (σ 47)) / 10 % 10) (tM (σ 47) (10 * (wF (st0 (σ 47)) / 100 + 1) + wF (st0 (σ 47)) % 10) + 1), nW (st0 (σ 47)))) := rfl
theorem oFind_m {σ : Sg} {w : Int} : oFind (absM σ) w = if 0 ≤ w ∧ w ≤ 2 then (if w = 0 ∨ Kp (σ 47 0) (σ 47 1) (tM (σ 47)) then (0, LW (tM (σ 47)) (σ 47 0) (σ 47 1) w, svA (absM σ) ((σ 47 0), (σ 47 1), (σ 47 5), (σ 47 2) + LW (tM (σ 47)) (σ 47 0) (σ 47 1) w, (σ 47 3) + 1, (st0 (σ 47)).2.2.2.2.2)) else (2, 0, (absM σ))) else (1, 0, (absM σ)) := rfl
theorem oWeigh_m {σ : Sg} {v : Int} : oWeigh (absM σ) v = if 1 ≤ v ∧ v ≤ 99 then (if (σ 47 5) = 10 then (2, 0, (absM σ)) else (0, (σ 47 5) + 1, svA (absM σ) ((σ 47 0), (σ 47 1), (σ 47 5) + 1, (σ 47 2), (σ 47 3), (σ 47 4), tM (σ 47), fu (nW (st0 (σ 47))) (σ 47 5) v))) else (1, 0, (absM σ)) := rfl
theorem oUnweigh_m {σ : Sg} : oUnweigh (absM σ) = if (σ 47 5) = 1 then (1, 0, (absM σ)) else (0, nW (st0 (σ 47)) ((σ 47 5) - 1), svA (absM σ) ((σ 47 0), (σ 47 1), (σ 47 5) - 1, (σ 47 2), (σ 47 3), (σ 47 4), tM (σ 47), fu (nW (st0 (σ 47))) ((σ 47 5) - 1) 0)) := rfl
theorem oAppend_m {σ : Sg} {c : Int} : oAppend (absM σ) c = if 33 ≤ c ∧ c ≤ 126 then (if (absM σ).2.2.2.2.length = 60 then (2, 0, (absM σ)) else (0, ((absM σ).2.2.2.2.length : Int) + 1, setB (absM σ) ((absM σ).2.2.2.2 ++ [c]))) else (1, 0, (absM σ)) := rfl
theorem oClear_m {σ : Sg} : oClear (absM σ) = (0, ((absM σ).2.2.2.2.length : Int), setB (absM σ) []) := rfl
theorem oKeep_m {σ : Sg} {s : Int} : oKeep (absM σ) s = if s = 0 then (0, (σ 47 0), ((st0 (σ 47)), (absM σ).2.1, some (st0 (σ 47)), (absM σ).2.2.2)) else if s = 1 then (0, (σ 47 0), ((st0 (σ 47)), (absM σ).2.1, (absM σ).2.2.1, some (st0 (σ 47)), (absM σ).2.2.2.2)) else (1, 0, (absM σ)) := rfl
theorem oBack_m {σ : Sg} {s : Int} : oBack (absM σ) s = if s = 0 then bkA (absM σ) (absM σ).2.2.1 else if s = 1 then bkA (absM σ) (absM σ).2.2.2.1 else (1, 0, (absM σ)) := rfl
theorem oUndo_m {σ : Sg} : oUndo (absM σ) = if (absM σ).2.1 = [] then (1, 0, (absM σ)) else (0, ((absM σ).2.1.length : Int) - 1, ((absM σ).2.1.getLastD (st0 (σ 47)), (absM σ).2.1.dropLast, (absM σ).2.2)) := rfl
theorem oCell_m {σ : Sg} {r c : Int} : oCell (absM σ) r c = if (0 ≤ r ∧ r < (σ 47 0)) ∧ (0 ≤ c ∧ c < (σ 47 1)) then (0, tM (σ 47) (10 * r + c), (absM σ)) else (1, 0, (absM σ)) := rfl
theorem oPlace_m {σ : Sg} {r w : Int} : oPlace (absM σ) r w = if 0 ≤ r ∧ r < (σ 47 0) then (if 0 ≤ w ∧ w ≤ 2 then (0, plW (st0 (σ 47)) w r, (absM σ)) else (2, 0, (absM σ))) else (1, 0, (absM σ)) := rfl
theorem oLooks_m {σ : Sg} {w : Int} : oLooks (absM σ) w = if 0 ≤ w ∧ w ≤ 2 then (0, lkW (st0 (σ 47)) w, (absM σ)) else (1, 0, (absM σ)) := rfl
theorem oBound_m {σ : Sg} : oBound (absM σ) = (0, ((σ 47 0) + (σ 47 1)) * hvB (σ 47 0), (absM σ)) := rfl
theorem oWitness_m {σ : Sg} {k : Int} : oWitness (absM σ) k = if 0 ≤ k ∧ k ≤ 3 then (0, tlF (st0 (σ 47)) k, (absM σ)) else (1, 0, (absM σ)) := rfl
theorem oCount_m {σ : Sg} {k : Int} : oCount (absM σ) k = if 0 ≤ k ∧ k ≤ 8 then (0, cnF (st0 (σ 47)) ((absM σ).2.1.length : Int) k, (absM σ)) else (1, 0, (absM σ)) := rfl
theorem oWeight_m {σ : Sg} {i : Int} : oWeight (absM σ) i = if 0 ≤ i ∧ i < (σ 47 5) then (0, nW (st0 (σ 47)) i, (absM σ)) else (1, 0, (absM σ)) := rfl
theorem oCost_m {σ : Sg} {p k : Int} : oCost (absM σ) p k = if (1 ≤ p ∧ p ≤ (σ 47 5)) ∧ (0 ≤ k ∧ k ≤ 1) then (0, (dpC (nW (st0 (σ 47))) p.toNat (σ 47 5)).1, (absM σ)) else (1, 0, (absM σ)) := rfl
theorem oCut_m {σ : Sg} {p c : Int} : oCut (absM σ) p c = if (1 ≤ p ∧ p ≤ (σ 47 5)) ∧ 0 ≤ c then (0, if p - 1 ≤ c then -1 else ctF (nW (st0 (σ 47))) p (σ 47 5) (p - c - 1).toNat, (absM σ)) else (1, 0, (absM σ)) := rfl
theorem oFewest_m {σ : Sg} {m : Int} : oFewest (absM σ) m = if 1 ≤ m ∧ m ≤ 999999 then (0, fwF (fun q => (dpC (nW (st0 (σ 47))) q.toNat (σ 47 5)).1) m (σ 47 5).toNat, (absM σ)) else (1, 0, (absM σ)) := rfl

theorem lkM_y {σ : Sg} {w : Int} (h : w = 0 ∨ Kp (σ 47 0) (σ 47 1) (tM (σ 47))) : lkW (st0 (σ 47)) w = LW (tM (σ 47)) (σ 47 0) (σ 47 1) w := if_pos h
theorem lkM_n {σ : Sg} {w : Int} (h : ¬ (w = 0 ∨ Kp (σ 47 0) (σ 47 1) (tM (σ 47)))) : lkW (st0 (σ 47)) w = -1 := if_neg h
theorem plM_y {σ : Sg} {w r : Int} (h : w = 0 ∨ Kp (σ 47 0) (σ 47 1) (tM (σ 47))) : plW (st0 (σ 47)) w r = PW (tM (σ 47)) (σ 47 0) (σ 47 1) w r := if_pos h
theorem plM_n {σ : Sg} {w r : Int} (h : ¬ (w = 0 ∨ Kp (σ 47 0) (σ 47 1) (tM (σ 47)))) : plW (st0 (σ 47)) w r = -1 := if_neg h
/-- a walk of the model's that leaves what it throws, and the hash, alone -/
def Qt (σ τ : Sg) : Prop := Qm σ τ ∧ τ 46 7 = σ 46 7 ∧ τ 46 20 = σ 46 20
theorem tl_at {σ : Sg} {k f : Int} (hf : f = wfst (σ 47 1) (tM (σ 47)) (100 * (σ 47 0 - 1)).toNat) (hk : 0 ≤ k ∧ k ≤ 2) : tlF (st0 (σ 47)) k = fdv f (if k = 0 then f / 100 else if k = 1 then f / 10 % 10 else f % 10) := by
  subst hf
  have hy : k = 0 ∨ k = 1 ∨ k = 2 := by omega
  rcases hy with rfl | rfl | rfl <;> rfl
theorem rs7 {σ : Sg} {i : Int} (a : 0 ≤ i) (b : i < σ 47 5) : σ 47 (6 + i) = rs (σ 47 5) (fun i => σ 47 (6 + i)) i := (rs_at (f := fun i => σ 47 (6 + i)) ⟨a, b⟩).symm

set_option maxHeartbeats 1000000 in
set_option maxRecDepth 100000 in
theorem tX8_isRow (G : GT) (σ : Sg) (r : Int) (h : -2147483648 ≤ r ∧ r ≤ 2147483647) (hR : 1 ≤ σ 47 0 ∧ σ 47 0 ≤ 10) : Ct G mX8_isRow 2 0 0 false SH SH [Rf G 46, I r] σ (fun rv sv => (((0 ≤ r ∧ r < σ 47 0) ∧ some (I 1) = rv) ∨ (¬ (0 ≤ r ∧ r < σ 47 0) ∧ some (I 0) = rv)) ∧ σ = sv) := by
  obtain ⟨P, hP⟩ : ∃ P : Option Value → Sg → Prop, P = (fun rv sv => (((0 ≤ r ∧ r < σ 47 0) ∧ some (I 1) = rv) ∨ (¬ (0 ≤ r ∧ r < σ 47 0) ∧ some (I 0) = rv)) ∧ σ = sv) := ⟨_, rfl⟩
  rw [← hP]
  refine ct_of (lv := [(0, Rf G 46), (1, I r)]) (by decide +kernel) (Nat.le_of_ble_eq_true rfl) rfl ?_
  refine r_iload_n dX8_isRow_0 rfl rfl ?_
  refine r_iconst dX8_isRow_1 ?_
  refine r_aload_n dX8_isRow_2 rfl rfl ?_
  refine r_getR (b := 47) dX8_isRow_3 sh46 rfl (ci := 8) (j := 0) rfl (Nat.le_of_ble_eq_true rfl) ixX8 q642 rfl ?_
  refine r_iconst dX8_isRow_6 ?_
  refine r_iald dX8_isRow_7 sh47 (by omega) (hv := rfl) ?_
  refine r_iconst dX8_isRow_8 ?_
  refine r_isub dX8_isRow_9 ?_
  refine r_callS (tX8_in G σ r 0 ((σ 47 0) - 1) (by omega)) dX8_isRow_10 svX8_in q671 rfl ⟨Nat.le_of_ble_eq_true rfl, Nat.le_of_ble_eq_true rfl⟩ (Nat.le_of_ble_eq_true rfl) ⟨Nat.le_of_ble_eq_true rfl, Nat.le_of_ble_eq_true rfl⟩ ?_
  rintro _ _ ⟨⟨hq1, rfl⟩ | ⟨hq1, rfl⟩, rfl⟩
  · skip
    exact r_zret dX8_isRow_13 rfl (by first | rfl | decide) (by rw [hP]; exact ⟨by first | exact Or.inl ⟨by omega, rfl⟩ | exact Or.inr ⟨by omega, rfl⟩, rfl⟩)
  · skip
    exact r_zret dX8_isRow_13 rfl (by first | rfl | decide) (by rw [hP]; exact ⟨by first | exact Or.inl ⟨by omega, rfl⟩ | exact Or.inr ⟨by omega, rfl⟩, rfl⟩)
set_option maxHeartbeats 1000000 in
set_option maxRecDepth 100000 in
theorem tX8_isCell (G : GT) (σ : Sg) (r c : Int) (h : -2147483648 ≤ r ∧ r ≤ 2147483647 ∧ -2147483648 ≤ c ∧ c ≤ 2147483647) (hR : 1 ≤ σ 47 0 ∧ σ 47 0 ≤ 10) (hC : 1 ≤ σ 47 1 ∧ σ 47 1 ≤ 10) : Ct G mX8_isCell 3 0 0 false SH SH [Rf G 46, I r, I c] σ (fun rv sv => ((((0 ≤ r ∧ r < σ 47 0) ∧ (0 ≤ c ∧ c < σ 47 1)) ∧ some (I 1) = rv) ∨ (¬ ((0 ≤ r ∧ r < σ 47 0) ∧ (0 ≤ c ∧ c < σ 47 1)) ∧ some (I 0) = rv)) ∧ σ = sv) := by
  obtain ⟨P, hP⟩ : ∃ P : Option Value → Sg → Prop, P = (fun rv sv => ((((0 ≤ r ∧ r < σ 47 0) ∧ (0 ≤ c ∧ c < σ 47 1)) ∧ some (I 1) = rv) ∨ (¬ ((0 ≤ r ∧ r < σ 47 0) ∧ (0 ≤ c ∧ c < σ 47 1)) ∧ some (I 0) = rv)) ∧ σ = sv) := ⟨_, rfl⟩
  rw [← hP]
  refine ct_of (lv := [(0, Rf G 46), (1, I r), (2, I c)]) (by decide +kernel) (Nat.le_of_ble_eq_true rfl) rfl ?_
  refine r_aload_n dX8_isCell_0 rfl rfl ?_
  refine r_iload_n dX8_isCell_1 rfl rfl ?_
  refine r_callV (tX8_isRow G σ r (by omega) (by omega)) dX8_isCell_2 svX8_isRow q690 sh46 (ci := 8) rfl rfl rfl ⟨Nat.le_of_ble_eq_true rfl, Nat.le_of_ble_eq_true rfl⟩ (Nat.le_of_ble_eq_true rfl) ⟨Nat.le_of_ble_eq_true rfl, Nat.le_of_ble_eq_true rfl⟩ ?_
  rintro _ _ ⟨⟨hq1, rfl⟩ | ⟨hq1, rfl⟩, rfl⟩
  · skip
    refine r_if_eq (tgt := 28) dX8_isCell_5 (by decide) (by omega) (fun hb2 => ?_) (fun hb2 => ?_)
    · skip
      exact absurd hb2 (by omega)
    · skip
      refine r_iload_n dX8_isCell_8 rfl rfl ?_
      refine r_iconst dX8_isCell_9 ?_
      refine r_aload_n dX8_isCell_10 rfl rfl ?_
      refine r_getR (b := 47) dX8_isCell_11 sh46 rfl (ci := 8) (j := 0) rfl (Nat.le_of_ble_eq_true rfl) ixX8 q642 rfl ?_
      refine r_iconst dX8_isCell_14 ?_
      refine r_iald dX8_isCell_15 sh47 (by omega) (hv := rfl) ?_
      refine r_iconst dX8_isCell_16 ?_
      refine r_isub dX8_isCell_17 ?_
      refine r_callS (tX8_in G σ c 0 ((σ 47 1) - 1) (by omega)) dX8_isCell_18 svX8_in q671 rfl ⟨Nat.le_of_ble_eq_true rfl, Nat.le_of_ble_eq_true rfl⟩ (Nat.le_of_ble_eq_true rfl) ⟨Nat.le_of_ble_eq_true rfl, Nat.le_of_ble_eq_true rfl⟩ ?_
      rintro _ _ ⟨⟨hq3, rfl⟩ | ⟨hq3, rfl⟩, rfl⟩
      · skip
        refine r_if_eq (tgt := 28) dX8_isCell_21 (by decide) (by omega) (fun hb4 => ?_) (fun hb4 => ?_)
        · skip
          exact absurd hb4 (by omega)
        · skip
          refine r_iconst dX8_isCell_24 ?_
          refine r_goto (tgt := 29) dX8_isCell_25 (by decide) ?_
          exact r_zret dX8_isCell_29 rfl (by first | rfl | decide) (by rw [hP]; exact ⟨by first | exact Or.inl ⟨by omega, rfl⟩ | exact Or.inr ⟨by omega, rfl⟩, rfl⟩)
      · skip
        refine r_if_eq (tgt := 28) dX8_isCell_21 (by decide) (by omega) (fun hb5 => ?_) (fun hb5 => ?_)
        · skip
          refine r_iconst dX8_isCell_28 ?_
          exact r_zret dX8_isCell_29 rfl (by first | rfl | decide) (by rw [hP]; exact ⟨by first | exact Or.inl ⟨by omega, rfl⟩ | exact Or.inr ⟨by omega, rfl⟩, rfl⟩)
        · skip
          exact absurd hb5 (by omega)
  · skip
    refine r_if_eq (tgt := 28) dX8_isCell_5 (by decide) (by omega) (fun hb6 => ?_) (fun hb6 => ?_)
    · skip
      refine r_iconst dX8_isCell_28 ?_
      exact r_zret dX8_isCell_29 rfl (by first | rfl | decide) (by rw [hP]; exact ⟨by first | exact Or.inl ⟨by omega, rfl⟩ | exact Or.inr ⟨by omega, rfl⟩, rfl⟩)
    · skip
      exact absurd hb6 (by omega)
set_option maxHeartbeats 1000000 in
set_option maxRecDepth 100000 in
theorem tX8_looksBy (G : GT) (σ : Sg) (w : Int) (hmi : IM σ) (hw : 0 ≤ w ∧ w ≤ 2) : Ct G mX8_looksBy 6 0 0 false SH SH [Rf G 46, I w] σ (fun rv sv => some (I (lkW (st0 (σ 47)) w)) = rv ∧ Qt σ sv) := by
  obtain ⟨P, hP⟩ : ∃ P : Option Value → Sg → Prop, P = (fun rv sv => some (I (lkW (st0 (σ 47)) w)) = rv ∧ Qt σ sv) := ⟨_, rfl⟩
  rw [← hP]
  refine ct_of (lv := [(0, Rf G 46), (1, I w)]) (by decide +kernel) (Nat.le_of_ble_eq_true rfl) rfl ?_
  obtain ⟨hR, hC, hn, hT, hwt, hp52, h2, h6, hbf⟩ := hmi.us
  refine r_aload_n dX8_looksBy_0 rfl rfl ?_
  refine r_iload_n dX8_looksBy_1 rfl rfl ?_
  refine r_callV (tX8_canGo G σ w (hmi.us.1) (hmi.us.2.1) (hmi.us.2.2.2.1) (by omega)) dX8_looksBy_2 svX8_canGo q720 sh46 (ci := 8) rfl rfl rfl ⟨Nat.le_of_ble_eq_true rfl, Nat.le_of_ble_eq_true rfl⟩ (Nat.le_of_ble_eq_true rfl) ⟨Nat.le_of_ble_eq_true rfl, Nat.le_of_ble_eq_true rfl⟩ ?_
  rintro _ _ ⟨⟨hk, rfl⟩ | ⟨hk, rfl⟩, rfl⟩
  · skip
    refine r_if_ne (tgt := 10) dX8_looksBy_5 (by decide) (by omega) (fun hb1 => ?_) (fun hb1 => ?_)
    · skip
      refine r_aload_n dX8_looksBy_10 rfl rfl ?_
      refine r_iload_n dX8_looksBy_11 rfl rfl ?_
      refine r_callV (tX8_finds G σ w (hmi.us.1) (hmi.us.2.1) (hmi.us.2.2.2.2.2.1) (by omega) (hmi.us.2.2.2.1)) dX8_looksBy_12 svX8_finds q723 sh46 (ci := 8) rfl rfl rfl ⟨Nat.le_of_ble_eq_true rfl, Nat.le_of_ble_eq_true rfl⟩ (Nat.le_of_ble_eq_true rfl) ⟨Nat.le_of_ble_eq_true rfl, Nat.le_of_ble_eq_true rfl⟩ ?_
      rintro _ s ⟨rfl, hs⟩
      refine r_aload_n dX8_looksBy_15 rfl rfl ?_
      refine r_getI (z := 9) dX8_looksBy_16 sh46 rfl (ci := 8) (j := 9) rfl (Nat.le_of_ble_eq_true rfl) rfl ixX8 q651 rfl (hv := rfl) ?_
      exact r_iret dX8_looksBy_19 rfl (by rw [hP]; exact ⟨by rw [lkM_y hk, hs.2.2.1], ⟨((Qm.refl σ).tr (Qm.fd hs)), (hs.2.1 7 (by decide) (by decide)), (hs.2.1 20 (by decide) (by decide))⟩⟩)
    · skip
      exact absurd hb1 (by omega)
  · skip
    refine r_if_ne (tgt := 10) dX8_looksBy_5 (by decide) (by omega) (fun hb2 => ?_) (fun hb2 => ?_)
    · skip
      exact absurd hb2 (by omega)
    · skip
      refine r_iconst dX8_looksBy_8 ?_
      exact r_iret dX8_looksBy_9 rfl (by rw [hP]; exact ⟨by rw [lkM_n hk], ⟨(Qm.refl σ), rfl, rfl⟩⟩)
set_option maxHeartbeats 1000000 in
set_option maxRecDepth 100000 in
theorem tX8_placeBy (G : GT) (σ : Sg) (r w : Int) (hmi : IM σ) (hw : 0 ≤ w ∧ w ≤ 2) (hr : 0 ≤ r ∧ r < σ 47 0) : Ct G mX8_placeBy 6 0 0 false SH SH [Rf G 46, I r, I w] σ (fun rv sv => some (I (plW (st0 (σ 47)) w r)) = rv ∧ Qt σ sv) := by
  obtain ⟨P, hP⟩ : ∃ P : Option Value → Sg → Prop, P = (fun rv sv => some (I (plW (st0 (σ 47)) w r)) = rv ∧ Qt σ sv) := ⟨_, rfl⟩
  rw [← hP]
  refine ct_of (lv := [(0, Rf G 46), (1, I r), (2, I w)]) (by decide +kernel) (Nat.le_of_ble_eq_true rfl) rfl ?_
  obtain ⟨hR, hC, hn, hT, hwt, hp52, h2, h6, hbf⟩ := hmi.us
  refine r_aload_n dX8_placeBy_0 rfl rfl ?_
  refine r_iload_n dX8_placeBy_1 rfl rfl ?_
  refine r_callV (tX8_canGo G σ w (hmi.us.1) (hmi.us.2.1) (hmi.us.2.2.2.1) (by omega)) dX8_placeBy_2 svX8_canGo q720 sh46 (ci := 8) rfl rfl rfl ⟨Nat.le_of_ble_eq_true rfl, Nat.le_of_ble_eq_true rfl⟩ (Nat.le_of_ble_eq_true rfl) ⟨Nat.le_of_ble_eq_true rfl, Nat.le_of_ble_eq_true rfl⟩ ?_
  rintro _ _ ⟨⟨hk, rfl⟩ | ⟨hk, rfl⟩, rfl⟩
  · skip
    refine r_if_ne (tgt := 10) dX8_placeBy_5 (by decide) (by omega) (fun hb1 => ?_) (fun hb1 => ?_)
    · skip
      refine r_aload_n dX8_placeBy_10 rfl rfl ?_
      refine r_iload_n dX8_placeBy_11 rfl rfl ?_
      refine r_callV (tX8_finds G σ w (hmi.us.1) (hmi.us.2.1) (hmi.us.2.2.2.2.2.1) (by omega) (hmi.us.2.2.2.1)) dX8_placeBy_12 svX8_finds q723 sh46 (ci := 8) rfl rfl rfl ⟨Nat.le_of_ble_eq_true rfl, Nat.le_of_ble_eq_true rfl⟩ (Nat.le_of_ble_eq_true rfl) ⟨Nat.le_of_ble_eq_true rfl, Nat.le_of_ble_eq_true rfl⟩ ?_
      rintro _ s ⟨rfl, hs⟩
      refine r_aload_n dX8_placeBy_15 rfl rfl ?_
      refine r_getR (b := 52) dX8_placeBy_16 sh46 rfl (ci := 8) (j := 8) rfl (Nat.le_of_ble_eq_true rfl) ixX8 q650 rfl ?_
      refine r_iload_n dX8_placeBy_19 rfl rfl ?_
      refine r_iald dX8_placeBy_20 sh52 (by omega) (hv := rfl) ?_
      exact r_iret dX8_placeBy_21 rfl (by rw [hP]; exact ⟨by rw [plM_y hk, hs.2.2.2.1 r hr.1 hr.2], ⟨((Qm.refl σ).tr (Qm.fd hs)), (hs.2.1 7 (by decide) (by decide)), (hs.2.1 20 (by decide) (by decide))⟩⟩)
    · skip
      exact absurd hb1 (by omega)
  · skip
    refine r_if_ne (tgt := 10) dX8_placeBy_5 (by decide) (by omega) (fun hb2 => ?_) (fun hb2 => ?_)
    · skip
      exact absurd hb2 (by omega)
    · skip
      refine r_iconst dX8_placeBy_8 ?_
      exact r_iret dX8_placeBy_9 rfl (by rw [hP]; exact ⟨by rw [plM_n hk], ⟨(Qm.refl σ), rfl, rfl⟩⟩)
set_option maxHeartbeats 1000000 in
set_option maxRecDepth 100000 in
theorem tX8_bounds (G : GT) (σ : Sg)  (hR : 1 ≤ σ 47 0 ∧ σ 47 0 ≤ 10) (hC : 1 ≤ σ 47 1 ∧ σ 47 1 ≤ 10) : Ct G mX8_bounds 1 0 0 false SH SH [Rf G 46] σ (fun rv sv => some (I ((σ 47 0 + σ 47 1) * hvB (σ 47 0))) = rv ∧ σ = sv) := by
  obtain ⟨P, hP⟩ : ∃ P : Option Value → Sg → Prop, P = (fun rv sv => some (I ((σ 47 0 + σ 47 1) * hvB (σ 47 0))) = rv ∧ σ = sv) := ⟨_, rfl⟩
  rw [← hP]
  refine ct_of (lv := [(0, Rf G 46)]) (by decide +kernel) (Nat.le_of_ble_eq_true rfl) rfl ?_
  refine r_iconst dX8_bounds_0 ?_
  refine r_istore_n (lv' := [(0, Rf G 46), (1, I 0)]) dX8_bounds_1 rfl (Nat.le_of_ble_eq_true rfl) rfl ?_
  refine r_aload_n dX8_bounds_2 rfl rfl ?_
  refine r_getR (b := 47) dX8_bounds_3 sh46 rfl (ci := 8) (j := 0) rfl (Nat.le_of_ble_eq_true rfl) ixX8 q642 rfl ?_
  refine r_iconst dX8_bounds_6 ?_
  refine r_iald dX8_bounds_7 sh47 (by omega) (hv := rfl) ?_
  refine r_istore_n (lv' := [(0, Rf G 46), (1, I 0), (2, I (σ 47 0))]) dX8_bounds_8 rfl (Nat.le_of_ble_eq_true rfl) rfl ?_
  have L9 : ∀ (mm : Nat) (h r : Int), r.toNat = mm → (hb : (h = 0 ∧ r = σ 47 0) ∨ (h = 1 ∧ r = σ 47 0 / 2) ∨ (h = 2 ∧ r = σ 47 0 / 4 ∧ 2 ≤ σ 47 0) ∨ (h = 3 ∧ r = σ 47 0 / 8 ∧ 4 ≤ σ 47 0) ∨ (h = 4 ∧ r = 0 ∧ 8 ≤ σ 47 0)) → Rn G mX8_bounds (rmD 1 0 0) E0 (Zn G false SH P 0 0) false SH 0 0 9 [(0, Rf G 46), (1, I h), (2, I r)] [] σ := by
    intro mm
    induction mm using Nat.strongRecOn with
    | _ mm ih9 =>
    intro h r hm9 hb
    refine r_iload_n dX8_bounds_9 rfl rfl ?_
    refine r_if_le (tgt := 23) dX8_bounds_10 (by decide) (by omega) (fun hb1 => ?_) (fun hb1 => ?_)
    · skip
      refine r_aload_n dX8_bounds_23 rfl rfl ?_
      refine r_getR (b := 47) dX8_bounds_24 sh46 rfl (ci := 8) (j := 0) rfl (Nat.le_of_ble_eq_true rfl) ixX8 q642 rfl ?_
      refine r_iconst dX8_bounds_27 ?_
      refine r_iald dX8_bounds_28 sh47 (by omega) (hv := rfl) ?_
      refine r_aload_n dX8_bounds_29 rfl rfl ?_
      refine r_getR (b := 47) dX8_bounds_30 sh46 rfl (ci := 8) (j := 0) rfl (Nat.le_of_ble_eq_true rfl) ixX8 q642 rfl ?_
      refine r_iconst dX8_bounds_33 ?_
      refine r_iald dX8_bounds_34 sh47 (by omega) (hv := rfl) ?_
      refine r_iadd dX8_bounds_35 ?_
      refine r_iload_n dX8_bounds_36 rfl rfl ?_
      refine r_imul dX8_bounds_37 ?_
      exact r_iret dX8_bounds_38 rfl (by rw [hP]; exact ⟨by rw [hvB_is hR.1 (by omega) hb], rfl⟩)
    · skip
      refine r_iinc (lv' := [(0, Rf G 46), (1, I (h + 1)), (2, I r)]) dX8_bounds_13 (Nat.le_of_ble_eq_true rfl) rfl rfl ?_
      refine r_iload_n dX8_bounds_16 rfl rfl ?_
      refine r_iconst dX8_bounds_17 ?_
      refine r_idiv dX8_bounds_18 (by omega) ?_
      refine r_istore_n (lv' := [(0, Rf G 46), (1, I (h + 1)), (2, I (r / 2))]) dX8_bounds_19 rfl (Nat.le_of_ble_eq_true rfl) rfl ?_
      refine r_goto (tgt := 9) dX8_bounds_20 (by decide) ?_
      exact ih9 _ (by omega) (h + 1) (r / 2) rfl (by omega)
  exact L9 _ 0 _ rfl (Or.inl ⟨rfl, rfl⟩)
set_option maxHeartbeats 1000000 in
set_option maxRecDepth 100000 in
theorem tX8_testified (G : GT) (σ : Sg) (k : Int) (hR : 1 ≤ σ 47 0 ∧ σ 47 0 ≤ 10) (hC : 1 ≤ σ 47 1 ∧ σ 47 1 ≤ 10) (hT : ∀ i, 0 ≤ tM (σ 47) i ∧ tM (σ 47) i ≤ 9999) (h : 0 ≤ k ∧ k ≤ 3) : Ct G mX8_testified 4 0 0 false SH SH [Rf G 46, I k] σ (fun rv sv => some (I (tlF (st0 (σ 47)) k)) = rv ∧ σ = sv) := by
  obtain ⟨P, hP⟩ : ∃ P : Option Value → Sg → Prop, P = (fun rv sv => some (I (tlF (st0 (σ 47)) k)) = rv ∧ σ = sv) := ⟨_, rfl⟩
  rw [← hP]
  refine ct_of (lv := [(0, Rf G 46), (1, I k)]) (by decide +kernel) (Nat.le_of_ble_eq_true rfl) rfl ?_
  refine r_iload_n dX8_testified_0 rfl rfl ?_
  refine r_iconst dX8_testified_1 ?_
  refine r_icmp_ne (tgt := 10) dX8_testified_2 (by decide) (by omega) (fun hb1 => ?_) (fun hb1 => ?_)
  · skip
    refine r_aload_n dX8_testified_10 rfl rfl ?_
    refine r_callV (tX8_first G σ  (by omega) (by omega) (by omega)) dX8_testified_11 svX8_first q706 sh46 (ci := 8) rfl rfl rfl ⟨Nat.le_of_ble_eq_true rfl, Nat.le_of_ble_eq_true rfl⟩ (Nat.le_of_ble_eq_true rfl) ⟨Nat.le_of_ble_eq_true rfl, Nat.le_of_ble_eq_true rfl⟩ ?_
    rintro _ _ ⟨rfl, rfl⟩
    have hb9 := wfst_bd (C := σ 47 1) (T := tM (σ 47)) (100 * (σ 47 0 - 1)).toNat
    obtain ⟨f, hf⟩ : ∃ f, f = (wfst (σ 47 1) (tM (σ 47)) (100 * (σ 47 0 - 1)).toNat) := ⟨_, rfl⟩
    rw [← hf] at hb9 ⊢
    refine r_istore_n (lv' := [(0, Rf G 46), (1, I k), (2, I f)]) dX8_testified_14 rfl (Nat.le_of_ble_eq_true rfl) rfl ?_
    refine r_iload_n dX8_testified_15 rfl rfl ?_
    refine r_iconst dX8_testified_16 ?_
    refine r_icmp_ne (tgt := 22) dX8_testified_17 (by decide) (by omega) (fun hb2 => ?_) (fun hb2 => ?_)
    · skip
      refine r_iload_n dX8_testified_22 rfl rfl ?_
      refine r_if_ne (tgt := 33) dX8_testified_23 (by decide) (by omega) (fun hb3 => ?_) (fun hb3 => ?_)
      · skip
        refine r_iload_n dX8_testified_33 rfl rfl ?_
        refine r_iconst dX8_testified_34 ?_
        refine r_icmp_ne (tgt := 48) dX8_testified_35 (by decide) (by omega) (fun hb4 => ?_) (fun hb4 => ?_)
        · skip
          refine r_iload_n dX8_testified_48 rfl rfl ?_
          refine r_bipush dX8_testified_49 rfl ?_
          refine r_irem dX8_testified_51 (by omega) ?_
          exact r_iret dX8_testified_52 rfl (by rw [hP]; exact ⟨by rw [tl_at hf (by omega)]; unfold fdv; first | rw [if_pos (by omega)] | (rw [if_neg (by omega)]; first | rw [if_pos (by omega)] | rw [if_neg (by omega), if_pos (by omega)] | rw [if_neg (by omega), if_neg (by omega)]), rfl⟩)
        · skip
          refine r_iload_n dX8_testified_38 rfl rfl ?_
          refine r_bipush dX8_testified_39 rfl ?_
          refine r_idiv dX8_testified_41 (by omega) ?_
          refine r_bipush dX8_testified_42 rfl ?_
          refine r_irem dX8_testified_44 (by omega) ?_
          refine r_goto (tgt := 52) dX8_testified_45 (by decide) ?_
          exact r_iret dX8_testified_52 rfl (by rw [hP]; exact ⟨by rw [tl_at hf (by omega)]; unfold fdv; first | rw [if_pos (by omega)] | (rw [if_neg (by omega)]; first | rw [if_pos (by omega)] | rw [if_neg (by omega), if_pos (by omega)] | rw [if_neg (by omega), if_neg (by omega)]), rfl⟩)
      · skip
        refine r_iload_n dX8_testified_26 rfl rfl ?_
        refine r_bipush dX8_testified_27 rfl ?_
        refine r_idiv dX8_testified_29 (by omega) ?_
        refine r_goto (tgt := 52) dX8_testified_30 (by decide) ?_
        exact r_iret dX8_testified_52 rfl (by rw [hP]; exact ⟨by rw [tl_at hf (by omega)]; unfold fdv; first | rw [if_pos (by omega)] | (rw [if_neg (by omega)]; first | rw [if_pos (by omega)] | rw [if_neg (by omega), if_pos (by omega)] | rw [if_neg (by omega), if_neg (by omega)]), rfl⟩)
    · skip
      refine r_iconst dX8_testified_20 ?_
      exact r_iret dX8_testified_21 rfl (by rw [hP]; exact ⟨by rw [tl_at hf (by omega)]; unfold fdv; first | rw [if_pos (by omega)] | (rw [if_neg (by omega)]; first | rw [if_pos (by omega)] | rw [if_neg (by omega), if_pos (by omega)] | rw [if_neg (by omega), if_neg (by omega)]), rfl⟩)
  · skip
    refine r_aload_n dX8_testified_5 rfl rfl ?_
    refine r_callV (tX8_witnesses G σ  (by omega) (by omega) (by omega)) dX8_testified_6 svX8_witnesses q839 sh46 (ci := 8) rfl rfl rfl ⟨Nat.le_of_ble_eq_true rfl, Nat.le_of_ble_eq_true rfl⟩ (Nat.le_of_ble_eq_true rfl) ⟨Nat.le_of_ble_eq_true rfl, Nat.le_of_ble_eq_true rfl⟩ ?_
    rintro _ _ ⟨rfl, rfl⟩
    exact r_iret dX8_testified_9 rfl (by rw [hP]; exact ⟨by rw [show k = 3 by omega]; rfl, rfl⟩)
set_option maxHeartbeats 1000000 in
set_option maxRecDepth 100000 in
theorem tX8_size (G : GT) (σ : Sg) (r c : Int) (hmi : IM σ) (hrg : (-2147483648 ≤ r ∧ r ≤ 2147483647) ∧ (-2147483648 ≤ c ∧ c ≤ 2147483647)) : Ct G mX8_size 3 0 0 false SH SH [Rf G 46, I r, I c] σ (MkP σ (oSize (absM σ) r c)) := by
  obtain ⟨P, hP⟩ : ∃ P : Option Value → Sg → Prop, P = (MkP σ (oSize (absM σ) r c)) := ⟨_, rfl⟩
  rw [← hP]
  refine ct_of (lv := [(0, Rf G 46), (1, I r), (2, I c)]) (by decide +kernel) (Nat.le_of_ble_eq_true rfl) rfl ?_
  obtain ⟨hR, hC, hn, hT, hwt, hp52, h2, h6, hbf⟩ := hmi.us
  have hO9 : OkS (st0 (σ 47)) := hmi.2.2.2.2.1
  refine r_aload_n dX8_size_0 rfl rfl ?_
  refine r_iconst dX8_size_1 ?_
  refine r_putI (z := 7) tyX8 dX8_size_2 sh46 rfl (ci := 8) (j := 7) rfl (Nat.le_of_ble_eq_true rfl) rfl tyX8_ok nmX8 ixX8 q649 rfl rfl rfl ?_
  refine r_iload_n dX8_size_5 rfl rfl ?_
  refine r_iconst dX8_size_6 ?_
  refine r_bipush dX8_size_7 rfl ?_
  refine r_callS (tX8_in G (up σ 46 7 0) r 1 10 (by omega)) dX8_size_9 svX8_in q671 rfl ⟨Nat.le_of_ble_eq_true rfl, Nat.le_of_ble_eq_true rfl⟩ (Nat.le_of_ble_eq_true rfl) ⟨Nat.le_of_ble_eq_true rfl, Nat.le_of_ble_eq_true rfl⟩ ?_
  rintro _ _ ⟨⟨hq1, rfl⟩ | ⟨hq1, rfl⟩, rfl⟩
  · skip
    refine r_if_eq (tgt := 25) dX8_size_12 (by decide) (by omega) (fun hb2 => ?_) (fun hb2 => ?_)
    · skip
      exact absurd hb2 (by omega)
    · skip
      refine r_iload_n dX8_size_15 rfl rfl ?_
      refine r_iconst dX8_size_16 ?_
      refine r_bipush dX8_size_17 rfl ?_
      refine r_callS (tX8_in G (up σ 46 7 0) c 1 10 (by omega)) dX8_size_19 svX8_in q671 rfl ⟨Nat.le_of_ble_eq_true rfl, Nat.le_of_ble_eq_true rfl⟩ (Nat.le_of_ble_eq_true rfl) ⟨Nat.le_of_ble_eq_true rfl, Nat.le_of_ble_eq_true rfl⟩ ?_
      rintro _ _ ⟨⟨hq3, rfl⟩ | ⟨hq3, rfl⟩, rfl⟩
      · skip
        refine r_if_ne (tgt := 31) dX8_size_22 (by decide) (by omega) (fun hb4 => ?_) (fun hb4 => ?_)
        · skip
          refine r_aload_n dX8_size_31 rfl rfl ?_
          refine r_callV (tX8_saves G (up σ 46 7 0)  (((Qm.u7 (σ := σ) (j := 7) (v := 0) (by decide)).ci hmi))) dX8_size_32 svX8_saves q677 sh46 (ci := 8) rfl rfl rfl ⟨Nat.le_of_ble_eq_true rfl, Nat.le_of_ble_eq_true rfl⟩ (Nat.le_of_ble_eq_true rfl) ⟨Nat.le_of_ble_eq_true rfl, Nat.le_of_ble_eq_true rfl⟩ ?_
          rintro _ s ⟨rfl, hs⟩
          refine r_bipush dX8_size_35 rfl ?_
          refine r_aload_n dX8_size_37 rfl rfl ?_
          refine r_getR (b := 47) dX8_size_38 sh46 rfl (ci := 8) (j := 0) rfl (Nat.le_of_ble_eq_true rfl) ixX8 q642 rfl ?_
          refine r_iconst dX8_size_41 ?_
          refine r_iald dX8_size_42 sh47 (by omega) (hv := (congrFun (hs.1 47 (by decide) (by decide)) 0).trans (congrFun (up_ne (by decide)) 0)) ?_
          refine r_imul dX8_size_43 ?_
          refine r_aload_n dX8_size_44 rfl rfl ?_
          refine r_getR (b := 47) dX8_size_45 sh46 rfl (ci := 8) (j := 0) rfl (Nat.le_of_ble_eq_true rfl) ixX8 q642 rfl ?_
          refine r_iconst dX8_size_48 ?_
          refine r_iald dX8_size_49 sh47 (by omega) (hv := (congrFun (hs.1 47 (by decide) (by decide)) 1).trans (congrFun (up_ne (by decide)) 1)) ?_
          refine r_iadd dX8_size_50 ?_
          refine r_istore_n (lv' := [(0, Rf G 46), (1, I r), (2, I c), (3, I ((11 * (σ 47 0)) + (σ 47 1)))]) dX8_size_51 rfl (Nat.le_of_ble_eq_true rfl) rfl ?_
          refine r_aload_n dX8_size_52 rfl rfl ?_
          refine r_getR (b := 47) dX8_size_53 sh46 rfl (ci := 8) (j := 0) rfl (Nat.le_of_ble_eq_true rfl) ixX8 q642 rfl ?_
          refine r_iconst dX8_size_56 ?_
          refine r_iload_n dX8_size_57 rfl rfl ?_
          refine r_iast dX8_size_58 sh47 (by omega) ?_
          refine r_aload_n dX8_size_59 rfl rfl ?_
          refine r_getR (b := 47) dX8_size_60 sh46 rfl (ci := 8) (j := 0) rfl (Nat.le_of_ble_eq_true rfl) ixX8 q642 rfl ?_
          refine r_iconst dX8_size_63 ?_
          refine r_iload_n dX8_size_64 rfl rfl ?_
          refine r_iast dX8_size_65 sh47 (by omega) ?_
          refine r_iload_n dX8_size_66 rfl rfl ?_
          exact r_iret dX8_size_67 rfl (by rw [hP]; exact by rw [oSize_m, if_pos (by omega)]; exact ⟨rfl, ((congrFun (up_ne (by decide)) 7).trans ((congrFun (up_ne (by decide)) 7).trans ((hs.2.1 7 (by decide)).trans (up_eq)))), aftN hmi (Qm.u7 (σ := σ) (j := 7) (v := 0) (by decide)) hs (Nm.u (Nm.u (Nm.refl s) (i := 0) (v := r)) (i := 1) (v := c)) ((congrFun (up_ne (by decide)) 6).trans ((congrFun (up_ne (by decide)) 6).trans ((hs.2.1 6 (by decide)).trans (up_nj (by decide))))) ((r, c, (absM σ).1.2.2)) ((up_nj (by decide)).trans (up_eq)) up_eq ((up_nj (by decide)).trans ((up_nj (by decide)).trans ((congrFun (hs.1 47 (by decide) (by decide)) 5).trans (congrFun (up_ne (by decide)) 5)))) ((up_nj (by decide)).trans ((up_nj (by decide)).trans ((congrFun (hs.1 47 (by decide) (by decide)) 2).trans (congrFun (up_ne (by decide)) 2)))) ((up_nj (by decide)).trans ((up_nj (by decide)).trans ((congrFun (hs.1 47 (by decide) (by decide)) 3).trans (congrFun (up_ne (by decide)) 3)))) ((up_nj (by decide)).trans ((up_nj (by decide)).trans ((congrFun (hs.1 47 (by decide) (by decide)) 4).trans (congrFun (up_ne (by decide)) 4)))) (fun i a b => by rw [up_nj (by omega), up_nj (by omega), hs.1 47 (by decide) (by decide), up_ne (by decide)]; exact tM_at ⟨a, b⟩) (fun i a b => by have b : i < σ 47 5 := b; rw [up_nj (by omega), up_nj (by omega), hs.1 47 (by decide) (by decide), up_ne (by decide)]; exact rs7 a b) (⟨by omega, by omega, hO9.2.2⟩)⟩)
        · skip
          exact absurd hb4 (by omega)
      · skip
        refine r_if_ne (tgt := 31) dX8_size_22 (by decide) (by omega) (fun hb5 => ?_) (fun hb5 => ?_)
        · skip
          exact absurd hb5 (by omega)
        · skip
          refine r_aload_n dX8_size_25 rfl rfl ?_
          refine r_iconst dX8_size_26 ?_
          refine r_callV (tX8_refuses G (up σ 46 7 0) 1) dX8_size_27 svX8_refuses q674 sh46 (ci := 8) rfl rfl rfl ⟨Nat.le_of_ble_eq_true rfl, Nat.le_of_ble_eq_true rfl⟩ (Nat.le_of_ble_eq_true rfl) ⟨Nat.le_of_ble_eq_true rfl, Nat.le_of_ble_eq_true rfl⟩ ?_
          rintro _ _ ⟨rfl, rfl⟩
          exact r_iret dX8_size_30 rfl (by rw [hP]; exact by rw [oSize_m]; first | (rw [if_neg (by omega)]; exact ⟨rfl, up_eq, ((((Qm.refl σ).tr (Qm.u7 (σ := σ) (j := 7) (v := 0) (by decide))).tr (Qm.u7 (σ := (up σ 46 7 0)) (j := 7) (v := 1) (by decide)))).done hmi⟩) | (rw [if_pos (by omega), if_neg (by omega)]; exact ⟨rfl, up_eq, ((((Qm.refl σ).tr (Qm.u7 (σ := σ) (j := 7) (v := 0) (by decide))).tr (Qm.u7 (σ := (up σ 46 7 0)) (j := 7) (v := 1) (by decide)))).done hmi⟩) | (rw [if_pos (by omega), if_pos (by omega)]; exact ⟨rfl, up_eq, ((((Qm.refl σ).tr (Qm.u7 (σ := σ) (j := 7) (v := 0) (by decide))).tr (Qm.u7 (σ := (up σ 46 7 0)) (j := 7) (v := 1) (by decide)))).done hmi⟩))
  · skip
    refine r_if_eq (tgt := 25) dX8_size_12 (by decide) (by omega) (fun hb6 => ?_) (fun hb6 => ?_)
    · skip
      refine r_aload_n dX8_size_25 rfl rfl ?_
      refine r_iconst dX8_size_26 ?_
      refine r_callV (tX8_refuses G (up σ 46 7 0) 1) dX8_size_27 svX8_refuses q674 sh46 (ci := 8) rfl rfl rfl ⟨Nat.le_of_ble_eq_true rfl, Nat.le_of_ble_eq_true rfl⟩ (Nat.le_of_ble_eq_true rfl) ⟨Nat.le_of_ble_eq_true rfl, Nat.le_of_ble_eq_true rfl⟩ ?_
      rintro _ _ ⟨rfl, rfl⟩
      exact r_iret dX8_size_30 rfl (by rw [hP]; exact by rw [oSize_m]; first | (rw [if_neg (by omega)]; exact ⟨rfl, up_eq, ((((Qm.refl σ).tr (Qm.u7 (σ := σ) (j := 7) (v := 0) (by decide))).tr (Qm.u7 (σ := (up σ 46 7 0)) (j := 7) (v := 1) (by decide)))).done hmi⟩) | (rw [if_pos (by omega), if_neg (by omega)]; exact ⟨rfl, up_eq, ((((Qm.refl σ).tr (Qm.u7 (σ := σ) (j := 7) (v := 0) (by decide))).tr (Qm.u7 (σ := (up σ 46 7 0)) (j := 7) (v := 1) (by decide)))).done hmi⟩) | (rw [if_pos (by omega), if_pos (by omega)]; exact ⟨rfl, up_eq, ((((Qm.refl σ).tr (Qm.u7 (σ := σ) (j := 7) (v := 0) (by decide))).tr (Qm.u7 (σ := (up σ 46 7 0)) (j := 7) (v := 1) (by decide)))).done hmi⟩))
    · skip
      exact absurd hb6 (by omega)
set_option maxHeartbeats 1000000 in
set_option maxRecDepth 100000 in
theorem tX8_put (G : GT) (σ : Sg) (r c v : Int) (hmi : IM σ) (hrg : (-2147483648 ≤ r ∧ r ≤ 2147483647) ∧ (-2147483648 ≤ c ∧ c ≤ 2147483647) ∧ (-2147483648 ≤ v ∧ v ≤ 2147483647)) : Ct G mX8_put 4 0 0 false SH SH [Rf G 46, I r, I c, I v] σ (MkP σ (oPut (absM σ) r c v)) := by
  obtain ⟨P, hP⟩ : ∃ P : Option Value → Sg → Prop, P = (MkP σ (oPut (absM σ) r c v)) := ⟨_, rfl⟩
  rw [← hP]
  refine ct_of (lv := [(0, Rf G 46), (1, I r), (2, I c), (3, I v)]) (by decide +kernel) (Nat.le_of_ble_eq_true rfl) rfl ?_
  obtain ⟨hR, hC, hn, hT, hwt, hp52, h2, h6, hbf⟩ := hmi.us
  have hO9 : OkS (st0 (σ 47)) := hmi.2.2.2.2.1
  refine r_aload_n dX8_put_0 rfl rfl ?_
  refine r_iconst dX8_put_1 ?_
  refine r_putI (z := 7) tyX8 dX8_put_2 sh46 rfl (ci := 8) (j := 7) rfl (Nat.le_of_ble_eq_true rfl) rfl tyX8_ok nmX8 ixX8 q649 rfl rfl rfl ?_
  refine r_aload_n dX8_put_5 rfl rfl ?_
  refine r_iload_n dX8_put_6 rfl rfl ?_
  refine r_iload_n dX8_put_7 rfl rfl ?_
  refine r_callV (tX8_isCell G (up σ 46 7 0) r c (by omega) (((Qm.u7 (σ := σ) (j := 7) (v := 0) (by decide)).ci hmi).us.1) (((Qm.u7 (σ := σ) (j := 7) (v := 0) (by decide)).ci hmi).us.2.1)) dX8_put_8 svX8_isCell q687 sh46 (ci := 8) rfl rfl rfl ⟨Nat.le_of_ble_eq_true rfl, Nat.le_of_ble_eq_true rfl⟩ (Nat.le_of_ble_eq_true rfl) ⟨Nat.le_of_ble_eq_true rfl, Nat.le_of_ble_eq_true rfl⟩ ?_
  rintro _ _ ⟨⟨hq1, rfl⟩ | ⟨hq1, rfl⟩, rfl⟩
  · skip
    rw [up_ne (by decide)] at hq1
    refine r_if_ne (tgt := 20) dX8_put_11 (by decide) (by omega) (fun hb2 => ?_) (fun hb2 => ?_)
    · skip
      refine r_iload_n dX8_put_20 rfl rfl ?_
      refine r_iconst dX8_put_21 ?_
      refine r_sipush dX8_put_22 rfl ?_
      refine r_callS (tX8_in G (up σ 46 7 0) v 0 9999 (by omega)) dX8_put_25 svX8_in q671 rfl ⟨Nat.le_of_ble_eq_true rfl, Nat.le_of_ble_eq_true rfl⟩ (Nat.le_of_ble_eq_true rfl) ⟨Nat.le_of_ble_eq_true rfl, Nat.le_of_ble_eq_true rfl⟩ ?_
      rintro _ _ ⟨⟨hq3, rfl⟩ | ⟨hq3, rfl⟩, rfl⟩
      · skip
        refine r_if_ne (tgt := 37) dX8_put_28 (by decide) (by omega) (fun hb4 => ?_) (fun hb4 => ?_)
        · skip
          refine r_aload_n dX8_put_37 rfl rfl ?_
          refine r_callV (tX8_saves G (up σ 46 7 0)  (((Qm.u7 (σ := σ) (j := 7) (v := 0) (by decide)).ci hmi))) dX8_put_38 svX8_saves q677 sh46 (ci := 8) rfl rfl rfl ⟨Nat.le_of_ble_eq_true rfl, Nat.le_of_ble_eq_true rfl⟩ (Nat.le_of_ble_eq_true rfl) ⟨Nat.le_of_ble_eq_true rfl, Nat.le_of_ble_eq_true rfl⟩ ?_
          rintro _ s ⟨rfl, hs⟩
          refine r_aload_n dX8_put_41 rfl rfl ?_
          refine r_iload_n dX8_put_42 rfl rfl ?_
          refine r_iload_n dX8_put_43 rfl rfl ?_
          refine r_callV (tX8_at G s r c (by omega)) dX8_put_44 svX8_at q693 sh46 (ci := 8) rfl rfl rfl ⟨Nat.le_of_ble_eq_true rfl, Nat.le_of_ble_eq_true rfl⟩ (Nat.le_of_ble_eq_true rfl) ⟨Nat.le_of_ble_eq_true rfl, Nat.le_of_ble_eq_true rfl⟩ ?_
          rintro _ _ ⟨rfl, rfl⟩
          rw [hs.1 47 (by decide) (by decide), up_ne (by decide)]
          refine r_istore (lv' := [(0, Rf G 46), (1, I r), (2, I c), (3, I v), (4, I (tM (σ 47) (10 * r + c)))]) dX8_put_47 (Nat.le_of_ble_eq_true rfl) rfl ?_
          refine r_aload_n dX8_put_49 rfl rfl ?_
          refine r_iload_n dX8_put_50 rfl rfl ?_
          refine r_iload_n dX8_put_51 rfl rfl ?_
          refine r_iload_n dX8_put_52 rfl rfl ?_
          refine r_callV (tX8_becomes G s r c v (by omega)) dX8_put_53 svX8_becomes q696 sh46 (ci := 8) rfl rfl rfl ⟨Nat.le_of_ble_eq_true rfl, Nat.le_of_ble_eq_true rfl⟩ (Nat.le_of_ble_eq_true rfl) ⟨Nat.le_of_ble_eq_true rfl, Nat.le_of_ble_eq_true rfl⟩ ?_
          rintro _ _ ⟨rfl, rfl⟩
          refine r_iload dX8_put_56 rfl ?_
          exact r_iret dX8_put_58 rfl (by rw [hP]; exact by rw [oPut_m, if_pos (by omega), if_pos (by omega)]; exact ⟨rfl, ((congrFun (up_ne (by decide)) 7).trans ((hs.2.1 7 (by decide)).trans (up_eq))), aftN hmi (Qm.u7 (σ := σ) (j := 7) (v := 0) (by decide)) hs (Nm.u (Nm.refl s) (i := (16 + (10 * r + c))) (v := v)) ((congrFun (up_ne (by decide)) 6).trans ((hs.2.1 6 (by decide)).trans (up_nj (by decide)))) (setT (st0 (σ 47)) (fu (tM (σ 47)) (10 * r + c) v)) ((up_nj (by omega)).trans ((congrFun (hs.1 47 (by decide) (by decide)) 0).trans (congrFun (up_ne (by decide)) 0))) ((up_nj (by omega)).trans ((congrFun (hs.1 47 (by decide) (by decide)) 1).trans (congrFun (up_ne (by decide)) 1))) ((up_nj (by omega)).trans ((congrFun (hs.1 47 (by decide) (by decide)) 5).trans (congrFun (up_ne (by decide)) 5))) ((up_nj (by omega)).trans ((congrFun (hs.1 47 (by decide) (by decide)) 2).trans (congrFun (up_ne (by decide)) 2))) ((up_nj (by omega)).trans ((congrFun (hs.1 47 (by decide) (by decide)) 3).trans (congrFun (up_ne (by decide)) 3))) ((up_nj (by omega)).trans ((congrFun (hs.1 47 (by decide) (by decide)) 4).trans (congrFun (up_ne (by decide)) 4))) (fun i a b => by rw [tM_put ⟨a, b⟩, hs.1 47 (by decide) (by decide), up_ne (by decide)]) (fun i a b => by have b : i < σ 47 5 := b; rw [up_nj (by omega), hs.1 47 (by decide) (by decide), up_ne (by decide)]; exact rs7 a b) (⟨hO9.1, hO9.2.1, hO9.2.2.1, (OkS_T hO9 (by omega) (by omega)).1, (OkS_T hO9 (by omega) (by omega)).2, hO9.2.2.2.2.2⟩)⟩)
        · skip
          exact absurd hb4 (by omega)
      · skip
        refine r_if_ne (tgt := 37) dX8_put_28 (by decide) (by omega) (fun hb5 => ?_) (fun hb5 => ?_)
        · skip
          exact absurd hb5 (by omega)
        · skip
          refine r_aload_n dX8_put_31 rfl rfl ?_
          refine r_iconst dX8_put_32 ?_
          refine r_callV (tX8_refuses G (up σ 46 7 0) 2) dX8_put_33 svX8_refuses q674 sh46 (ci := 8) rfl rfl rfl ⟨Nat.le_of_ble_eq_true rfl, Nat.le_of_ble_eq_true rfl⟩ (Nat.le_of_ble_eq_true rfl) ⟨Nat.le_of_ble_eq_true rfl, Nat.le_of_ble_eq_true rfl⟩ ?_
          rintro _ _ ⟨rfl, rfl⟩
          exact r_iret dX8_put_36 rfl (by rw [hP]; exact by rw [oPut_m]; first | (rw [if_neg (by omega)]; exact ⟨rfl, up_eq, ((((Qm.refl σ).tr (Qm.u7 (σ := σ) (j := 7) (v := 0) (by decide))).tr (Qm.u7 (σ := (up σ 46 7 0)) (j := 7) (v := 2) (by decide)))).done hmi⟩) | (rw [if_pos (by omega), if_neg (by omega)]; exact ⟨rfl, up_eq, ((((Qm.refl σ).tr (Qm.u7 (σ := σ) (j := 7) (v := 0) (by decide))).tr (Qm.u7 (σ := (up σ 46 7 0)) (j := 7) (v := 2) (by decide)))).done hmi⟩) | (rw [if_pos (by omega), if_pos (by omega)]; exact ⟨rfl, up_eq, ((((Qm.refl σ).tr (Qm.u7 (σ := σ) (j := 7) (v := 0) (by decide))).tr (Qm.u7 (σ := (up σ 46 7 0)) (j := 7) (v := 2) (by decide)))).done hmi⟩))
    · skip
      exact absurd hb2 (by omega)
  · skip
    rw [up_ne (by decide)] at hq1
    refine r_if_ne (tgt := 20) dX8_put_11 (by decide) (by omega) (fun hb6 => ?_) (fun hb6 => ?_)
    · skip
      exact absurd hb6 (by omega)
    · skip
      refine r_aload_n dX8_put_14 rfl rfl ?_
      refine r_iconst dX8_put_15 ?_
      refine r_callV (tX8_refuses G (up σ 46 7 0) 1) dX8_put_16 svX8_refuses q674 sh46 (ci := 8) rfl rfl rfl ⟨Nat.le_of_ble_eq_true rfl, Nat.le_of_ble_eq_true rfl⟩ (Nat.le_of_ble_eq_true rfl) ⟨Nat.le_of_ble_eq_true rfl, Nat.le_of_ble_eq_true rfl⟩ ?_
      rintro _ _ ⟨rfl, rfl⟩
      exact r_iret dX8_put_19 rfl (by rw [hP]; exact by rw [oPut_m]; first | (rw [if_neg (by omega)]; exact ⟨rfl, up_eq, ((((Qm.refl σ).tr (Qm.u7 (σ := σ) (j := 7) (v := 0) (by decide))).tr (Qm.u7 (σ := (up σ 46 7 0)) (j := 7) (v := 1) (by decide)))).done hmi⟩) | (rw [if_pos (by omega), if_neg (by omega)]; exact ⟨rfl, up_eq, ((((Qm.refl σ).tr (Qm.u7 (σ := σ) (j := 7) (v := 0) (by decide))).tr (Qm.u7 (σ := (up σ 46 7 0)) (j := 7) (v := 1) (by decide)))).done hmi⟩) | (rw [if_pos (by omega), if_pos (by omega)]; exact ⟨rfl, up_eq, ((((Qm.refl σ).tr (Qm.u7 (σ := σ) (j := 7) (v := 0) (by decide))).tr (Qm.u7 (σ := (up σ 46 7 0)) (j := 7) (v := 1) (by decide)))).done hmi⟩))
set_option maxHeartbeats 1000000 in
set_option maxRecDepth 100000 in
theorem tX8_cell (G : GT) (σ : Sg) (r c : Int) (hmi : IM σ) (hrg : (-2147483648 ≤ r ∧ r ≤ 2147483647) ∧ (-2147483648 ≤ c ∧ c ≤ 2147483647)) : Ct G mX8_cell 4 0 0 false SH SH [Rf G 46, I r, I c] σ (MkP σ (oCell (absM σ) r c)) := by
  obtain ⟨P, hP⟩ : ∃ P : Option Value → Sg → Prop, P = (MkP σ (oCell (absM σ) r c)) := ⟨_, rfl⟩
  rw [← hP]
  refine ct_of (lv := [(0, Rf G 46), (1, I r), (2, I c)]) (by decide +kernel) (Nat.le_of_ble_eq_true rfl) rfl ?_
  obtain ⟨hR, hC, hn, hT, hwt, hp52, h2, h6, hbf⟩ := hmi.us
  have hO9 : OkS (st0 (σ 47)) := hmi.2.2.2.2.1
  refine r_aload_n dX8_cell_0 rfl rfl ?_
  refine r_iconst dX8_cell_1 ?_
  refine r_putI (z := 7) tyX8 dX8_cell_2 sh46 rfl (ci := 8) (j := 7) rfl (Nat.le_of_ble_eq_true rfl) rfl tyX8_ok nmX8 ixX8 q649 rfl rfl rfl ?_
  refine r_aload_n dX8_cell_5 rfl rfl ?_
  refine r_iload_n dX8_cell_6 rfl rfl ?_
  refine r_iload_n dX8_cell_7 rfl rfl ?_
  refine r_callV (tX8_isCell G (up σ 46 7 0) r c (by omega) (((Qm.u7 (σ := σ) (j := 7) (v := 0) (by decide)).ci hmi).us.1) (((Qm.u7 (σ := σ) (j := 7) (v := 0) (by decide)).ci hmi).us.2.1)) dX8_cell_8 svX8_isCell q687 sh46 (ci := 8) rfl rfl rfl ⟨Nat.le_of_ble_eq_true rfl, Nat.le_of_ble_eq_true rfl⟩ (Nat.le_of_ble_eq_true rfl) ⟨Nat.le_of_ble_eq_true rfl, Nat.le_of_ble_eq_true rfl⟩ ?_
  rintro _ _ ⟨⟨hq1, rfl⟩ | ⟨hq1, rfl⟩, rfl⟩
  · skip
    rw [up_ne (by decide)] at hq1
    refine r_if_eq (tgt := 23) dX8_cell_11 (by decide) (by omega) (fun hb2 => ?_) (fun hb2 => ?_)
    · skip
      exact absurd hb2 (by omega)
    · skip
      refine r_aload_n dX8_cell_14 rfl rfl ?_
      refine r_iload_n dX8_cell_15 rfl rfl ?_
      refine r_iload_n dX8_cell_16 rfl rfl ?_
      refine r_callV (tX8_at G (up σ 46 7 0) r c (by omega)) dX8_cell_17 svX8_at q693 sh46 (ci := 8) rfl rfl rfl ⟨Nat.le_of_ble_eq_true rfl, Nat.le_of_ble_eq_true rfl⟩ (Nat.le_of_ble_eq_true rfl) ⟨Nat.le_of_ble_eq_true rfl, Nat.le_of_ble_eq_true rfl⟩ ?_
      rintro _ _ ⟨rfl, rfl⟩
      rw [up_ne (by decide)]
      refine r_goto (tgt := 28) dX8_cell_20 (by decide) ?_
      exact r_iret dX8_cell_28 rfl (by rw [hP]; exact by rw [oCell_m]; first | (rw [if_neg (by omega)]; exact ⟨rfl, up_eq, (((Qm.refl σ).tr (Qm.u7 (σ := σ) (j := 7) (v := 0) (by decide)))).done hmi⟩) | (rw [if_pos (by omega)]; exact ⟨rfl, up_eq, (((Qm.refl σ).tr (Qm.u7 (σ := σ) (j := 7) (v := 0) (by decide)))).done hmi⟩))
  · skip
    rw [up_ne (by decide)] at hq1
    refine r_if_eq (tgt := 23) dX8_cell_11 (by decide) (by omega) (fun hb3 => ?_) (fun hb3 => ?_)
    · skip
      refine r_aload_n dX8_cell_23 rfl rfl ?_
      refine r_iconst dX8_cell_24 ?_
      refine r_callV (tX8_refuses G (up σ 46 7 0) 1) dX8_cell_25 svX8_refuses q674 sh46 (ci := 8) rfl rfl rfl ⟨Nat.le_of_ble_eq_true rfl, Nat.le_of_ble_eq_true rfl⟩ (Nat.le_of_ble_eq_true rfl) ⟨Nat.le_of_ble_eq_true rfl, Nat.le_of_ble_eq_true rfl⟩ ?_
      rintro _ _ ⟨rfl, rfl⟩
      exact r_iret dX8_cell_28 rfl (by rw [hP]; exact by rw [oCell_m]; first | (rw [if_neg (by omega)]; exact ⟨rfl, up_eq, ((((Qm.refl σ).tr (Qm.u7 (σ := σ) (j := 7) (v := 0) (by decide))).tr (Qm.u7 (σ := (up σ 46 7 0)) (j := 7) (v := 1) (by decide)))).done hmi⟩) | (rw [if_pos (by omega)]; exact ⟨rfl, up_eq, ((((Qm.refl σ).tr (Qm.u7 (σ := σ) (j := 7) (v := 0) (by decide))).tr (Qm.u7 (σ := (up σ 46 7 0)) (j := 7) (v := 1) (by decide)))).done hmi⟩))
    · skip
      exact absurd hb3 (by omega)
