variable {Ω : List Ob}

/-- places lo to hi of a cell, laid over -/
def ov (σ : Sg) (a : Nat) (lo hi : Int) (g : Int → Int) : Sg := fun b j => if b = a then (if lo ≤ j ∧ j < hi then g j else σ b j) else σ b j
theorem ov_ne {σ : Sg} {a b : Nat} {lo hi : Int} {g : Int → Int} (h : b ≠ a) : ov σ a lo hi g b = σ b := by funext j; simp [ov, h]
theorem ov_at {σ : Sg} {a : Nat} {lo hi j : Int} {g : Int → Int} : ov σ a lo hi g a j = if lo ≤ j ∧ j < hi then g j else σ a j := by simp [ov]
theorem ov_0 {σ : Sg} {a : Nat} {lo hi : Int} {g : Int → Int} (h : hi ≤ lo) : ov σ a lo hi g = σ := by
  funext b j
  by_cases hb : b = a
  · subst hb; rw [ov_at, if_neg (by omega)]
  · rw [ov_ne hb]
theorem ov_s {σ : Sg} {a : Nat} {lo i : Int} {g : Int → Int} {v : Int} (h : lo ≤ i) (hv : v = g i) : up (ov σ a lo i g) a i v = ov σ a lo (i + 1) g := by
  funext b j
  by_cases hb : b = a
  · subst hb
    rw [up_at, ov_at, ov_at]
    by_cases hj : j = i
    · rw [if_pos hj, if_pos (by omega), hv, hj]
    · rw [if_neg hj]
      by_cases hq : lo ≤ j ∧ j < i
      · rw [if_pos hq, if_pos (by omega)]
      · rw [if_neg hq, if_neg (by omega)]
  · rw [up_ne hb, ov_ne hb, ov_ne hb]
theorem up_comm {σ : Sg} {a b : Nat} {i j x y : Int} (h : a ≠ b) : up (up σ a i x) b j y = up (up σ b j y) a i x := by
  funext c k
  by_cases hb : c = b
  · subst hb
    have ha : c ≠ a := fun q => h q.symm
    rw [up_at, up_ne ha, up_ne ha, up_at]
  · by_cases ha : c = a
    · subst ha
      rw [up_ne hb, up_at, up_at, up_ne hb]
    · rw [up_ne hb, up_ne ha, up_ne ha, up_ne hb]
theorem ov_up {σ : Sg} {a b : Nat} {lo hi j y : Int} {g : Int → Int} (h : a ≠ b) : ov (up σ b j y) a lo hi g = up (ov σ a lo hi g) b j y := by
  funext c k
  by_cases ha : c = a
  · subst ha
    rw [ov_at, up_ne h, up_ne h, ov_at]
  · rw [ov_ne ha]
    by_cases hb : c = b
    · subst hb; rw [up_at, up_at, ov_ne ha]
    · rw [up_ne hb, up_ne hb, ov_ne ha]
/-- the places by halves, and the looks -/
def hvP (T : Int → Int) : Nat → Int → Int → Int → Int → Int → Int
  | 0, _, _, _, _, _ => 0
  | f + 1, a, b, p, q, r => if r = (a + b) / 2 then lsI T ((a + b) / 2) p q else if r < (a + b) / 2 then hvP T f a ((a + b) / 2 - 1) p (lsI T ((a + b) / 2) p q) r else hvP T f ((a + b) / 2 + 1) b (lsI T ((a + b) / 2) p q) q r
def hvL (T : Int → Int) : Nat → Int → Int → Int → Int → Int
  | 0, _, _, _, _ => 0
  | f + 1, a, b, p, q => if b < a then 0 else (q - p + 1) + hvL T f a ((a + b) / 2 - 1) p (lsI T ((a + b) / 2) p q) + hvL T f ((a + b) / 2 + 1) b (lsI T ((a + b) / 2) p q) q
theorem hvL_0 {T : Int → Int} {f : Nat} {a b p q : Int} (h : b < a) : hvL T f a b p q = 0 := by
  cases f with
  | zero => rfl
  | succ f => simp only [hvL]; rw [if_pos h]

set_option maxHeartbeats 1000000 in
set_option maxRecDepth 100000 in
theorem tX1_leaveAllColumns (G : GT) (σ : Sg)  (hC : 1 ≤ σ 1 1 ∧ σ 1 1 ≤ 10) : Ct G mX1_leaveAllColumns 2 0 0 false (SH Ω) (SH Ω) [Rf G 5] σ (fun rv sv => none = rv ∧ up (ov σ 8 0 (σ 1 1) (fun j => j)) 9 0 (σ 1 1) = sv) := by
  obtain ⟨P, hP⟩ : ∃ P : Option Value → Sg → Prop, P = (fun rv sv => none = rv ∧ up (ov σ 8 0 (σ 1 1) (fun j => j)) 9 0 (σ 1 1) = sv) := ⟨_, rfl⟩
  rw [← hP]
  refine ct_of (lv := [(0, Rf G 5)]) (by decide +kernel) (Nat.le_of_ble_eq_true rfl) rfl ?_
  refine r_iconst dX1_leaveAllColumns_0 ?_
  refine r_istore_n (lv' := [(0, Rf G 5), (1, I 0)]) dX1_leaveAllColumns_1 rfl (Nat.le_of_ble_eq_true rfl) rfl ?_
  have L2 : ∀ (mm : Nat) (i : Int) (s : Sg), (σ 1 1 - i).toNat = mm → (hi : 0 ≤ i ∧ i ≤ σ 1 1) → (hS : s = ov σ 8 0 i (fun j => j)) → Rn G mX1_leaveAllColumns (rmD 2 0 0) E0 (Zn G false (SH Ω) P 0 0) false (SH Ω) 0 0 2 [(0, Rf G 5), (1, I i)] [] s := by
    intro mm
    induction mm using Nat.strongRecOn with
    | _ mm ih2 =>
    intro i s hm2 hi hS
    have e1 : s 1 = σ 1 := by rw [hS, ov_ne (by decide)]
    refine r_iload_n dX1_leaveAllColumns_2 rfl rfl ?_
    refine r_aload_n dX1_leaveAllColumns_3 rfl rfl ?_
    refine r_getR (b := 1) dX1_leaveAllColumns_4 sh5 rfl (ci := 1) (j := 0) rfl (Nat.le_of_ble_eq_true rfl) ixX1 q74 rfl ?_
    refine r_getI (z := 1) dX1_leaveAllColumns_7 sh1 rfl (ci := 5) (j := 1) rfl (Nat.le_of_ble_eq_true rfl) rfl ixX5 q38 rfl (hv := congrFun (e1) 1) ?_
    refine r_icmp_ge (tgt := 28) dX1_leaveAllColumns_10 (by decide) (by omega) (fun hb1 => ?_) (fun hb1 => ?_)
    · skip
      refine r_aload_n dX1_leaveAllColumns_28 rfl rfl ?_
      refine r_getR (b := 9) dX1_leaveAllColumns_29 sh5 rfl (ci := 1) (j := 4) rfl (Nat.le_of_ble_eq_true rfl) ixX1 q78 rfl ?_
      refine r_iconst dX1_leaveAllColumns_32 ?_
      refine r_aload_n dX1_leaveAllColumns_33 rfl rfl ?_
      refine r_getR (b := 1) dX1_leaveAllColumns_34 sh5 rfl (ci := 1) (j := 0) rfl (Nat.le_of_ble_eq_true rfl) ixX1 q74 rfl ?_
      refine r_getI (z := 1) dX1_leaveAllColumns_37 sh1 rfl (ci := 5) (j := 1) rfl (Nat.le_of_ble_eq_true rfl) rfl ixX5 q38 rfl (hv := congrFun (e1) 1) ?_
      refine r_callSN (tX7_setIn G s 9 0 (σ 1 1) 5 (sh9) (by omega)) dX1_leaveAllColumns_40 svX7_setIn nw5 rfl ⟨Nat.le_of_ble_eq_true rfl, Nat.le_of_ble_eq_true rfl⟩ (Nat.le_of_ble_eq_true rfl) ⟨Nat.le_of_ble_eq_true rfl, Nat.le_of_ble_eq_true rfl⟩ ?_
      rintro _ _ ⟨rfl, rfl⟩
      exact r_vret dX1_leaveAllColumns_43 rfl (by rw [hP]; exact ⟨rfl, by rw [hS, show i = σ 1 1 by omega]⟩)
    · skip
      refine r_aload_n dX1_leaveAllColumns_13 rfl rfl ?_
      refine r_getR (b := 8) dX1_leaveAllColumns_14 sh5 rfl (ci := 1) (j := 3) rfl (Nat.le_of_ble_eq_true rfl) ixX1 q77 rfl ?_
      refine r_iload_n dX1_leaveAllColumns_17 rfl rfl ?_
      refine r_iload_n dX1_leaveAllColumns_18 rfl rfl ?_
      refine r_callSN (tX7_setIn G s 8 i i 50 (sh8) (by omega)) dX1_leaveAllColumns_19 svX7_setIn nw5 rfl ⟨Nat.le_of_ble_eq_true rfl, Nat.le_of_ble_eq_true rfl⟩ (Nat.le_of_ble_eq_true rfl) ⟨Nat.le_of_ble_eq_true rfl, Nat.le_of_ble_eq_true rfl⟩ ?_
      rintro _ _ ⟨rfl, rfl⟩
      refine r_iinc (lv' := [(0, Rf G 5), (1, I (i + 1))]) dX1_leaveAllColumns_22 (Nat.le_of_ble_eq_true rfl) rfl rfl ?_
      refine r_goto (tgt := 2) dX1_leaveAllColumns_25 (by decide) ?_
      exact ih2 _ (by omega) (i + 1) _ rfl (by omega) (by rw [hS]; exact ov_s hi.1 rfl)
  exact L2 _ 0 _ rfl (by omega) ((ov_0 (by omega)).symm)
set_option maxHeartbeats 1000000 in
set_option maxRecDepth 100000 in
theorem tX1_lookAtAll (G : GT) (σ : Sg)  (hR : 1 ≤ σ 1 0 ∧ σ 1 0 ≤ 10) (hC : 1 ≤ σ 1 1 ∧ σ 1 1 ≤ 10) (hT : ∀ i, 0 ≤ σ 2 i ∧ σ 2 i ≤ 9999) (hid : ∀ j, 0 ≤ j → j < σ 1 1 → σ 8 (10 * 0 + j) = j) (hcn : σ 9 0 = σ 1 1) (hw : 0 ≤ σ 5 5 ∧ σ 5 5 ≤ 2) : Ct G mX1_lookAtAll 4 0 0 false (SH Ω) (SH Ω) [Rf G 5] σ (fun rv sv => none = rv ∧ up (ov σ 6 (10 * σ 5 5) (10 * σ 5 5 + σ 1 0) (fun j => lsI (σ 2) (j - 10 * σ 5 5) 0 (σ 1 1 - 1))) 5 6 (σ 5 6 + σ 1 1 * σ 1 0) = sv) := by
  obtain ⟨P, hP⟩ : ∃ P : Option Value → Sg → Prop, P = (fun rv sv => none = rv ∧ up (ov σ 6 (10 * σ 5 5) (10 * σ 5 5 + σ 1 0) (fun j => lsI (σ 2) (j - 10 * σ 5 5) 0 (σ 1 1 - 1))) 5 6 (σ 5 6 + σ 1 1 * σ 1 0) = sv) := ⟨_, rfl⟩
  rw [← hP]
  refine ct_of (lv := [(0, Rf G 5)]) (by decide +kernel) (Nat.le_of_ble_eq_true rfl) rfl ?_
  refine r_iconst dX1_lookAtAll_0 ?_
  refine r_istore_n (lv' := [(0, Rf G 5), (1, I 0)]) dX1_lookAtAll_1 rfl (Nat.le_of_ble_eq_true rfl) rfl ?_
  have L2 : ∀ (mm : Nat) (r : Int) (s : Sg), (σ 1 0 - r).toNat = mm → (hr : 0 ≤ r ∧ r ≤ σ 1 0) → (hS : s = up (ov σ 6 (10 * σ 5 5) (10 * σ 5 5 + r) (fun j => lsI (σ 2) (j - 10 * σ 5 5) 0 (σ 1 1 - 1))) 5 6 (σ 5 6 + σ 1 1 * r)) → Rn G mX1_lookAtAll (rmD 4 0 0) E0 (Zn G false (SH Ω) P 0 0) false (SH Ω) 0 0 2 [(0, Rf G 5), (1, I r)] [] s := by
    intro mm
    induction mm using Nat.strongRecOn with
    | _ mm ih2 =>
    intro r s hm2 hr hS
    have e1 : s 1 = σ 1 := by rw [hS, up_ne (by decide), ov_ne (by decide)]
    have e2 : s 2 = σ 2 := by rw [hS, up_ne (by decide), ov_ne (by decide)]
    have e8 : s 8 = σ 8 := by rw [hS, up_ne (by decide), ov_ne (by decide)]
    have e9 : s 9 = σ 9 := by rw [hS, up_ne (by decide), ov_ne (by decide)]
    have f5 : s 5 5 = σ 5 5 := by rw [hS, up_nj (by decide), ov_ne (by decide)]
    have f6 : s 5 6 = σ 5 6 + σ 1 1 * r := by rw [hS, up_eq]
    have hls := lsI_of (T := σ 2) (row := r) (p := 0) (q := σ 1 1 - 1) (C := σ 1 1) (f := fun j => σ 8 (10 * 0 + j)) hid (by omega) (by omega) (by omega)
    have hlb := lsI_bd (T := σ 2) (row := r) (p := 0) (q := σ 1 1 - 1) (by omega) (by omega)
    refine r_iload_n dX1_lookAtAll_2 rfl rfl ?_
    refine r_aload_n dX1_lookAtAll_3 rfl rfl ?_
    refine r_getR (b := 1) dX1_lookAtAll_4 sh5 rfl (ci := 1) (j := 0) rfl (Nat.le_of_ble_eq_true rfl) ixX1 q74 rfl ?_
    refine r_getI (z := 0) dX1_lookAtAll_7 sh1 rfl (ci := 5) (j := 0) rfl (Nat.le_of_ble_eq_true rfl) rfl ixX5 q34 rfl (hv := congrFun (e1) 0) ?_
    refine r_icmp_ge (tgt := 40) dX1_lookAtAll_10 (by decide) (by omega) (fun hb1 => ?_) (fun hb1 => ?_)
    · skip
      exact r_vret dX1_lookAtAll_40 rfl (by rw [hP]; exact ⟨rfl, by rw [hS, show r = σ 1 0 by omega]⟩)
    · skip
      refine r_aload_n dX1_lookAtAll_13 rfl rfl ?_
      refine r_iload_n dX1_lookAtAll_14 rfl rfl ?_
      refine r_aload_n dX1_lookAtAll_15 rfl rfl ?_
      refine r_iload_n dX1_lookAtAll_16 rfl rfl ?_
      refine r_iconst dX1_lookAtAll_17 ?_
      refine r_iconst dX1_lookAtAll_18 ?_
      refine r_aload_n dX1_lookAtAll_19 rfl rfl ?_
      refine r_getR (b := 1) dX1_lookAtAll_20 sh5 rfl (ci := 1) (j := 0) rfl (Nat.le_of_ble_eq_true rfl) ixX1 q74 rfl ?_
      refine r_getI (z := 1) dX1_lookAtAll_23 sh1 rfl (ci := 5) (j := 1) rfl (Nat.le_of_ble_eq_true rfl) rfl ixX5 q38 rfl (hv := congrFun (e1) 1) ?_
      refine r_iconst dX1_lookAtAll_26 ?_
      refine r_isub dX1_lookAtAll_27 ?_
      refine r_callV (tX1_leftmostLeast G s r 0 0 ((σ 1 1) - 1) (by omega) (by rw [e9]; omega) (by rw [e9]; intro j a b; rw [e8, hid j a (by omega)]; omega) (by rw [e2]; exact hT)) dX1_lookAtAll_28 svX1_leftmostLeast q273 sh5 (ci := 1) rfl rfl rfl ⟨Nat.le_of_ble_eq_true rfl, Nat.le_of_ble_eq_true rfl⟩ (Nat.le_of_ble_eq_true rfl) ⟨Nat.le_of_ble_eq_true rfl, Nat.le_of_ble_eq_true rfl⟩ ?_
      rintro _ _ ⟨rfl, rfl⟩
      rw [show s 9 0 = σ 9 0 from congrFun (e9) 0]
      simp only [e2, e8, e9, hcn, hls.1, hls.2]
      refine r_callV (tX1_setPlace G (up s 5 6 (s 5 6 + ((σ 1 1 - 1) - 0 + 1))) r (lsI (σ 2) (r) (0) (σ 1 1 - 1)) (by rw [up_nj (by decide), f5]; omega)) dX1_lookAtAll_31 svX1_setPlace q287 sh5 (ci := 1) rfl rfl rfl ⟨Nat.le_of_ble_eq_true rfl, Nat.le_of_ble_eq_true rfl⟩ (Nat.le_of_ble_eq_true rfl) ⟨Nat.le_of_ble_eq_true rfl, Nat.le_of_ble_eq_true rfl⟩ ?_
      rintro _ _ ⟨rfl, rfl⟩
      refine r_iinc (lv' := [(0, Rf G 5), (1, I (r + 1))]) dX1_lookAtAll_34 (Nat.le_of_ble_eq_true rfl) rfl rfl ?_
      refine r_goto (tgt := 2) dX1_lookAtAll_37 (by decide) ?_
      exact ih2 _ (by omega) (r + 1) _ rfl (by omega) (by rw [up_nj (show (5:Int) ≠ 6 by decide), f5, f6, hS, up_twice, up_comm (by decide), ov_s (by omega) (by show _ = lsI (σ 2) (10 * σ 5 5 + r - 10 * σ 5 5) 0 (σ 1 1 - 1); congr 1; omega), Int.mul_add, Int.mul_one, show 10 * σ 5 5 + r + 1 = 10 * σ 5 5 + (r + 1) by omega]; congr 1; omega)
  exact L2 _ 0 _ rfl (by omega) (by rw [ov_0 (by omega), Int.mul_zero, Int.add_zero]; funext b j; simp only [up]; by_cases hb : b = 5 <;> by_cases hj : j = 6 <;> simp [hb, hj])

theorem up_id {σ : Sg} {a : Nat} {i x : Int} (h : x = σ a i) : up σ a i x = σ := by
  funext b j
  by_cases hb : b = a
  · subst hb; rw [up_at]
    by_cases hj : j = i
    · rw [if_pos hj, h, hj]
    · rw [if_neg hj]
  · rw [up_ne hb]
def HS (f : Nat) (σ : Sg) (a b p q : Int) : Sg := up (ov σ 6 (10 * σ 5 5 + a) (10 * σ 5 5 + b + 1) (fun j => hvP (σ 2) f a b p q (j - 10 * σ 5 5))) 5 6 (σ 5 6 + hvL (σ 2) f a b p q)
theorem HS_ne {f : Nat} {σ : Sg} {a b p q : Int} {o : Nat} (h5 : o ≠ 5) (h6 : o ≠ 6) : HS f σ a b p q o = σ o := by unfold HS; rw [up_ne h5, ov_ne h6]
theorem HS_5 {f : Nat} {σ : Sg} {a b p q : Int} : HS f σ a b p q 5 5 = σ 5 5 := by unfold HS; rw [up_nj (by decide), ov_ne (by decide)]
theorem HS_0 {f : Nat} {σ : Sg} {a b p q : Int} (h : b < a) : HS f σ a b p q = σ := by
  unfold HS; rw [ov_0 (by omega), hvL_0 h, Int.add_zero, up_id rfl]
theorem HS_6 {f : Nat} {σ : Sg} {a b p q j : Int} : HS f σ a b p q 6 j = if 10 * σ 5 5 + a ≤ j ∧ j < 10 * σ 5 5 + b + 1 then hvP (σ 2) f a b p q (j - 10 * σ 5 5) else σ 6 j := by
  unfold HS; rw [up_ne (by decide), ov_at]
theorem HS_56 {f : Nat} {σ : Sg} {a b p q : Int} : HS f σ a b p q 5 6 = σ 5 6 + hvL (σ 2) f a b p q := by unfold HS; rw [up_eq]
theorem HS_5j {f : Nat} {σ : Sg} {a b p q j : Int} (h : j ≠ 6) : HS f σ a b p q 5 j = σ 5 j := by unfold HS; rw [up_nj h, ov_ne (by decide)]
theorem HS_s {f : Nat} {σ : Sg} {a b p q w x : Int} (h : a ≤ b) (hw : w = σ 5 5) (hx : x = σ 5 6 + (q - p + 1)) :
    HS f (HS f (up (up σ 5 6 x) 6 (10 * w + (a + b) / 2) (lsI (σ 2) ((a + b) / 2) p q)) a ((a + b) / 2 - 1) p (lsI (σ 2) ((a + b) / 2) p q)) ((a + b) / 2 + 1) b (lsI (σ 2) ((a + b) / 2) p q) q = HS (f + 1) σ a b p q := by
  subst hw hx
  obtain ⟨c, hc⟩ : ∃ c, c = lsI (σ 2) ((a + b) / 2) p q := ⟨_, rfl⟩
  rw [← hc]
  obtain ⟨S, hS⟩ : ∃ S, S = up (up σ 5 6 (σ 5 6 + (q - p + 1))) 6 (10 * σ 5 5 + (a + b) / 2) c := ⟨_, rfl⟩
  rw [← hS]
  have e2 : S 2 = σ 2 := by rw [hS, up_ne (by decide), up_ne (by decide)]
  have e5 : S 5 5 = σ 5 5 := by rw [hS, up_ne (by decide), up_nj (by decide)]
  have e56 : S 5 6 = σ 5 6 + (q - p + 1) := by rw [hS, up_ne (by decide), up_eq]
  obtain ⟨U, hU⟩ : ∃ U, U = HS f S a ((a + b) / 2 - 1) p c := ⟨_, rfl⟩
  rw [← hU]
  have u2 : U 2 = σ 2 := by rw [hU, HS_ne (by decide) (by decide), e2]
  have u5 : U 5 5 = σ 5 5 := by rw [hU, HS_5, e5]
  funext o j
  by_cases h5 : o = 5
  · subst h5
    by_cases h6 : j = 6
    · subst h6
      rw [HS_56, HS_56, u2, hU, HS_56, e2, e56]
      simp only [hvL]
      rw [if_neg (by omega), ← hc]
      omega
    · rw [HS_5j h6, HS_5j h6, hU, HS_5j h6, hS, up_ne (by decide), up_nj h6]
  · by_cases h6 : o = 6
    · subst h6
      rw [HS_6, HS_6, u5, u2, hU, HS_6, e5, e2]
      simp only [hvP]
      rw [← hc]
      by_cases c1 : j - 10 * σ 5 5 = (a + b) / 2
      · rw [if_neg (by omega), if_neg (by omega), if_pos (by omega), if_pos c1, hS, up_at, if_pos (by omega)]
      · by_cases c2 : j - 10 * σ 5 5 < (a + b) / 2
        · rw [if_neg (by omega)]
          by_cases c3 : a ≤ j - 10 * σ 5 5
          · rw [if_pos (by omega), if_pos (by omega), if_neg c1, if_pos c2]
          · rw [if_neg (by omega), if_neg (by omega), hS, up_at, if_neg (by omega), up_ne (by decide)]
        · by_cases c3 : j - 10 * σ 5 5 ≤ b
          · rw [if_pos (by omega), if_pos (by omega), if_neg c1, if_neg c2]
          · rw [if_neg (by omega), if_neg (by omega), if_neg (by omega), hS, up_at, if_neg (by omega), up_ne (by decide)]
    · rw [HS_ne h5 h6, hU, HS_ne h5 h6, HS_ne h5 h6, hS, up_ne h6, up_ne h5]

set_option maxHeartbeats 4000000 in
set_option maxRecDepth 100000 in
theorem tX1_halve (G : GT) : ∀ (f : Nat) (σ : Sg) (a b p q dep : Int) (h : 0 ≤ a ∧ a ≤ b + 1 ∧ b ≤ 9 ∧ 0 ≤ p ∧ p ≤ q ∧ q < σ 1 1 ∧ 0 ≤ dep ∧ dep + (b - a + 1) ≤ 10 ∧ b - a + 1 ≤ (f : Int)) (hC : 1 ≤ σ 1 1 ∧ σ 1 1 ≤ 10) (hT : ∀ i, 0 ≤ σ 2 i ∧ σ 2 i ≤ 9999) (hid : ∀ j, 0 ≤ j → j < σ 1 1 → σ 8 (10 * 0 + j) = j) (hcn : σ 9 0 = σ 1 1) (hw : 0 ≤ σ 5 5 ∧ σ 5 5 ≤ 2), Ct G mX1_halve (4 + f) 0 0 false (SH Ω) (SH Ω) [Rf G 5, I a, I b, I p, I q, I dep] σ (fun rv sv => none = rv ∧ HS f σ a b p q = sv) := by
  intro f
  induction f with
  | zero =>
    intro σ a b p q dep h hC hT hid hcn hw
    obtain ⟨P, hP⟩ : ∃ P : Option Value → Sg → Prop, P = (fun rv sv => none = rv ∧ HS 0 σ a b p q = sv) := ⟨_, rfl⟩
    rw [← hP]
    refine ct_of (lv := [(0, Rf G 5), (1, I a), (2, I b), (3, I p), (4, I q), (5, I dep)]) (by decide +kernel) (Nat.le_of_ble_eq_true rfl) rfl ?_
    refine r_aload_n dX1_halve_0 rfl rfl ?_
    refine r_ifnull dX1_halve_1 ?_
    refine r_iload_n dX1_halve_4 rfl rfl ?_
    refine r_iload_n dX1_halve_5 rfl rfl ?_
    refine r_icmp_gt (tgt := 16) dX1_halve_6 (by decide) (by omega) (fun hb1 => ?_) (fun hb1 => ?_)
    · skip
      exact r_vret dX1_halve_16 rfl (by rw [hP]; exact ⟨rfl, by exact HS_0 (by omega)⟩)
    · skip
      exact absurd hb1 (by omega)
  | succ f ih =>
    intro σ a b p q dep h hC hT hid hcn hw
    obtain ⟨P, hP⟩ : ∃ P : Option Value → Sg → Prop, P = (fun rv sv => none = rv ∧ HS (f + 1) σ a b p q = sv) := ⟨_, rfl⟩
    rw [← hP]
    refine ct_of (lv := [(0, Rf G 5), (1, I a), (2, I b), (3, I p), (4, I q), (5, I dep)]) (by decide +kernel) (Nat.le_of_ble_eq_true rfl) rfl ?_
    refine r_aload_n dX1_halve_0 rfl rfl ?_
    refine r_ifnull dX1_halve_1 ?_
    refine r_iload_n dX1_halve_4 rfl rfl ?_
    refine r_iload_n dX1_halve_5 rfl rfl ?_
    refine r_icmp_gt (tgt := 16) dX1_halve_6 (by decide) (by omega) (fun hb1 => ?_) (fun hb1 => ?_)
    · skip
      exact r_vret dX1_halve_16 rfl (by rw [hP]; exact ⟨rfl, by exact HS_0 (by omega)⟩)
    · skip
      refine r_iload dX1_halve_9 rfl ?_
      refine r_bipush dX1_halve_11 rfl ?_
      refine r_icmp_le (tgt := 17) dX1_halve_13 (by decide) (by omega) (fun hb2 => ?_) (fun hb2 => ?_)
      · skip
        refine r_iload_n dX1_halve_17 rfl rfl ?_
        refine r_iload_n dX1_halve_18 rfl rfl ?_
        refine r_iadd dX1_halve_19 ?_
        refine r_iconst dX1_halve_20 ?_
        refine r_idiv dX1_halve_21 (by omega) ?_
        refine r_istore (lv' := [(0, Rf G 5), (1, I a), (2, I b), (3, I p), (4, I q), (5, I dep), (6, I ((a + b) / 2))]) dX1_halve_22 (Nat.le_of_ble_eq_true rfl) rfl ?_
        refine r_aload_n dX1_halve_24 rfl rfl ?_
        refine r_iload dX1_halve_25 rfl ?_
        refine r_iconst dX1_halve_27 ?_
        refine r_iload_n dX1_halve_28 rfl rfl ?_
        refine r_iload dX1_halve_29 rfl ?_
        refine r_callV (tX1_leftmostLeast G σ ((a + b) / 2) 0 p q (by omega) (by rw [hcn]; omega) (by intro j a9 b9; rw [hid j a9 (by omega)]; omega) (by omega)) dX1_halve_31 svX1_leftmostLeast q273 sh5 (ci := 1) rfl rfl rfl ⟨by show 3 + 1 ≤ (4 + (f + 1)); omega, by show 8 + (11 + 11) + 40 * 3 ≤ 40 * (4 + (f + 1)); omega⟩ (Nat.le_of_ble_eq_true rfl) ⟨Nat.le_of_ble_eq_true rfl, Nat.le_of_ble_eq_true rfl⟩ ?_
        rintro _ _ ⟨rfl, rfl⟩
        have hls := lsI_of (T := σ 2) (row := (a + b) / 2) (p := p) (q := q) (C := σ 1 1) (f := fun j => σ 8 (10 * 0 + j)) hid (by omega) (by omega) (by omega)
        have hlb := lsI_bd (T := σ 2) (row := (a + b) / 2) (p := p) (q := q) (by omega) (by omega)
        simp only [hcn, hls.1, hls.2]
        obtain ⟨c, hc⟩ : ∃ c, c = lsI (σ 2) ((a + b) / 2) p q := ⟨_, rfl⟩
        rw [← hc] at hlb
        rw [← hc]
        refine r_istore (lv' := [(0, Rf G 5), (1, I a), (2, I b), (3, I p), (4, I q), (5, I dep), (6, I ((a + b) / 2)), (7, I c)]) dX1_halve_34 (Nat.le_of_ble_eq_true rfl) rfl ?_
        refine r_aload_n dX1_halve_36 rfl rfl ?_
        refine r_iload dX1_halve_37 rfl ?_
        refine r_iload dX1_halve_39 rfl ?_
        refine r_callV (tX1_setPlace G (up σ 5 6 (σ 5 6 + (q - p + 1))) ((a + b) / 2) c (by rw [up_nj (by decide)]; omega)) dX1_halve_41 svX1_setPlace q287 sh5 (ci := 1) rfl rfl rfl ⟨by show 2 + 1 ≤ (4 + (f + 1)); omega, by show 8 + (3 + 11) + 40 * 2 ≤ 40 * (4 + (f + 1)); omega⟩ (Nat.le_of_ble_eq_true rfl) ⟨Nat.le_of_ble_eq_true rfl, Nat.le_of_ble_eq_true rfl⟩ ?_
        rintro _ _ ⟨rfl, rfl⟩
        rw [up_nj (show (5 : Int) ≠ 6 by decide)]
        obtain ⟨s, hS⟩ : ∃ s, s = up (up σ 5 6 (σ 5 6 + (q - p + 1))) 6 (10 * σ 5 5 + (a + b) / 2) c := ⟨_, rfl⟩
        rw [← hS]
        have f5 : s 5 5 = σ 5 5 := by rw [hS, up_ne (by decide), up_nj (by decide)]
        have e1 : s 1 = σ 1 := by rw [hS, up_ne (by decide), up_ne (by decide)]
        have e2 : s 2 = σ 2 := by rw [hS, up_ne (by decide), up_ne (by decide)]
        have e8 : s 8 = σ 8 := by rw [hS, up_ne (by decide), up_ne (by decide)]
        have e9 : s 9 = σ 9 := by rw [hS, up_ne (by decide), up_ne (by decide)]
        refine r_aload_n dX1_halve_44 rfl rfl ?_
        refine r_iload_n dX1_halve_45 rfl rfl ?_
        refine r_iload dX1_halve_46 rfl ?_
        refine r_iconst dX1_halve_48 ?_
        refine r_isub dX1_halve_49 ?_
        refine r_iload_n dX1_halve_50 rfl rfl ?_
        refine r_iload dX1_halve_51 rfl ?_
        refine r_iload dX1_halve_53 rfl ?_
        refine r_iconst dX1_halve_55 ?_
        refine r_iadd dX1_halve_56 ?_
        refine r_callS (ih s a (((a + b) / 2) - 1) p c (dep + 1) (by rw [e1]; omega) (by rw [e1]; exact hC) (by rw [e2]; exact hT) (by rw [e1, e8]; exact hid) (by rw [e9, e1]; exact hcn) (by rw [f5]; exact hw)) dX1_halve_57 svX1_halve q270 rfl ⟨by show (4 + f) + 1 ≤ (4 + (f + 1)); omega, by show 8 + (8 + 11) + 40 * (4 + f) ≤ 40 * (4 + (f + 1)); omega⟩ (Nat.le_of_ble_eq_true rfl) ⟨Nat.le_of_ble_eq_true rfl, Nat.le_of_ble_eq_true rfl⟩ ?_
        rintro _ _ ⟨rfl, rfl⟩
        obtain ⟨t, hT9⟩ : ∃ t, t = HS f s a (((a + b) / 2) - 1) p c := ⟨_, rfl⟩
        rw [← hT9]
        have g5 : t 5 5 = σ 5 5 := by rw [hT9, HS_5, f5]
        have d1 : t 1 = σ 1 := by rw [hT9, HS_ne (by decide) (by decide), e1]
        have d2 : t 2 = σ 2 := by rw [hT9, HS_ne (by decide) (by decide), e2]
        have d8 : t 8 = σ 8 := by rw [hT9, HS_ne (by decide) (by decide), e8]
        have d9 : t 9 = σ 9 := by rw [hT9, HS_ne (by decide) (by decide), e9]
        refine r_aload_n dX1_halve_60 rfl rfl ?_
        refine r_iload dX1_halve_61 rfl ?_
        refine r_iconst dX1_halve_63 ?_
        refine r_iadd dX1_halve_64 ?_
        refine r_iload_n dX1_halve_65 rfl rfl ?_
        refine r_iload dX1_halve_66 rfl ?_
        refine r_iload dX1_halve_68 rfl ?_
        refine r_iload dX1_halve_70 rfl ?_
        refine r_iconst dX1_halve_72 ?_
        refine r_iadd dX1_halve_73 ?_
        refine r_callS (ih t (((a + b) / 2) + 1) b c q (dep + 1) (by rw [d1]; omega) (by rw [d1]; exact hC) (by rw [d2]; exact hT) (by rw [d1, d8]; exact hid) (by rw [d9, d1]; exact hcn) (by rw [g5]; exact hw)) dX1_halve_74 svX1_halve q270 rfl ⟨by show (4 + f) + 1 ≤ (4 + (f + 1)); omega, by show 8 + (8 + 11) + 40 * (4 + f) ≤ 40 * (4 + (f + 1)); omega⟩ (Nat.le_of_ble_eq_true rfl) ⟨Nat.le_of_ble_eq_true rfl, Nat.le_of_ble_eq_true rfl⟩ ?_
        rintro _ _ ⟨rfl, rfl⟩
        exact r_vret dX1_halve_77 rfl (by rw [hP]; exact ⟨rfl, by rw [hT9, hS, hc]; exact (HS_s (by omega) rfl rfl).symm⟩)
      · skip
        exact absurd hb2 (by omega)
