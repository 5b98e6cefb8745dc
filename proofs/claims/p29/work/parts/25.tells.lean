variable {Ω : List Ob}

def hvB (R : Int) : Int := if R < 2 then 1 else if R < 4 then 2 else if R < 8 then 3 else 4
theorem hvB_is {R h r : Int} (hR : 1 ≤ R) (hr : r ≤ 0) (hb : (h = 0 ∧ r = R) ∨ (h = 1 ∧ r = R / 2) ∨ (h = 2 ∧ r = R / 4 ∧ 2 ≤ R) ∨ (h = 3 ∧ r = R / 8 ∧ 4 ≤ R) ∨ (h = 4 ∧ r = 0 ∧ 8 ≤ R)) : h = hvB R := by
  unfold hvB
  repeat' split
  all_goals omega
theorem gbk_c2 {f g : Int → Int} : ∀ k : Nat, (∀ r : Int, 0 ≤ r → r ≤ k → f r = g r) → gbk f k = gbk g k
  | 0, _ => rfl
  | k + 1, h => by
    simp only [gbk]
    rw [gbk_c2 k (fun r a b => h r a (by omega)), h (k + 1) (by omega) (by omega), h k (by omega) (by omega)]
theorem wsum_c {f g : Int → Int} : ∀ k : Nat, (∀ r : Int, 0 ≤ r → r < k → f r = g r) → wsum f k = wsum g k
  | 0, _ => rfl
  | k + 1, h => by
    simp only [wsum]
    rw [wsum_c k (fun r a b => h r a (by omega)), h k (by omega) (by omega)]
theorem Sm_c {f g : Int → Int} {n a b : Int} (h : ∀ r : Int, 0 ≤ r → r < n → f r = g r) (ha : a ≤ n) (hb : b ≤ n) : Sm f a b = Sm g a b := by
  unfold Sm
  rw [wsum_c b.toNat (fun r p q => h r p (by omega)), wsum_c a.toNat (fun r p q => h r p (by omega))]
theorem bsF_c2 {prev prev' w w' : Int → Int} {a0 n : Int} : ∀ k : Nat, (∀ j : Int, a0 ≤ j → j < a0 + k → prev j = prev' j ∧ Sm w j n = Sm w' j n) → bsF prev w a0 n k = bsF prev' w' a0 n k
  | 0, _ => rfl
  | k + 1, h => by
    simp only [bsF]
    rw [bsF_c2 k (fun j a b => h j a (by omega)), (h (a0 + k) (by omega) (by omega)).1, (h (a0 + k) (by omega) (by omega)).2]
theorem dpC_c {f g : Int → Int} {n : Int} (h : ∀ r : Int, 0 ≤ r → r < n → f r = g r) : ∀ (p : Nat) (m : Int), (p : Int) ≤ m → m ≤ n → dpC f p m = dpC g p m
  | 0, _, _, _ => rfl
  | p + 1, m, hp, hm => by
    show bsF _ f p m (cntA ((p : Int) + 1) m) = bsF _ g p m (cntA ((p : Int) + 1) m)
    apply bsF_c2
    intro j a b
    have b2 : j < m := by
      unfold cntA at b
      split at b <;> omega
    exact ⟨by rw [dpC_c h p j a (by omega)], Sm_c h (by omega) hm⟩
theorem ctF_c {f g : Int → Int} {n p m : Int} (h : ∀ r : Int, 0 ≤ r → r < n → f r = g r) (hw : ∀ i : Int, 0 ≤ i → i < n → 1 ≤ g i ∧ g i ≤ 99) (hn : n ≤ 10) (hp : p ≤ m) (hm : m ≤ n) : ∀ k : Nat, (k : Int) < p → ctF f p m k = ctF g p m k ∧ p - k ≤ ctF g p m k ∧ ctF g p m k ≤ m
  | 0, _ => ⟨rfl, by show p - ((0 : Nat) : Int) ≤ m; omega, by show m ≤ m; omega⟩
  | k + 1, hk => by
    obtain ⟨h1, h2, h3⟩ := ctF_c h hw hn hp hm k (by omega)
    have hb := dpC_bd hn hw (p - k).toNat (ctF g p m k) (by omega) (by omega) (by omega)
    simp only [ctF]
    rw [h1, dpC_c h (p - k).toNat (ctF g p m k) (by omega) (by omega)]
    exact ⟨rfl, by omega, by omega⟩
theorem fwF_rs {f g : Int → Int} {n most : Int} (h : ∀ r : Int, 0 ≤ r → r < n → f r = g r) : fwF (fun q => (dpC f q.toNat n).1) most n.toNat = fwF (fun q => (dpC g q.toNat n).1) most n.toNat :=
  fwF_c _ (fun p a b => by rw [dpC_c h p.toNat n (by omega) (by omega)])
abbrev xT (x : St) : Int → Int := nT x
/-- what is counted -/
def cnF (x : St) (hl k : Int) : Int := if k = 0 then x.1 else if k = 1 then x.2.1 else if k = 2 then x.2.2.1 else if k = 3 then wsum (nW x) x.2.2.1.toNat else if k = 4 then x.2.2.2.1 else if k = 5 then x.2.2.2.2.1 else if k = 6 then x.2.2.2.2.2.1 else if k = 7 then gbk (PW (nT x) x.1 x.2.1 0) (x.1 - 1).toNat else hl
/-- places and looks as far as a way is open -/
def lkW (x : St) (w : Int) : Int := if w = 0 ∨ Kp x.1 x.2.1 (nT x) then LW (nT x) x.1 x.2.1 w else -1
def plW (x : St) (w r : Int) : Int := if w = 0 ∨ Kp x.1 x.2.1 (nT x) then PW (nT x) x.1 x.2.1 w r else -1
/-- what the rule tells -/
def tlF (x : St) (k : Int) : Int := if k = 0 then fdv (wfst x.2.1 (nT x) (100 * (x.1 - 1)).toNat) (wfst x.2.1 (nT x) (100 * (x.1 - 1)).toNat / 100) else if k = 1 then fdv (wfst x.2.1 (nT x) (100 * (x.1 - 1)).toNat) (wfst x.2.1 (nT x) (100 * (x.1 - 1)).toNat / 10 % 10) else if k = 2 then fdv (wfst x.2.1 (nT x) (100 * (x.1 - 1)).toNat) (wfst x.2.1 (nT x) (100 * (x.1 - 1)).toNat % 10) else wcnt x.2.1 (nT x) (100 * (x.1 - 1)).toNat
theorem exs_tl {σ : Sg} (h : CI σ) {k : Int} (hk : 0 ≤ k ∧ k ≤ 3) : exs σ (100 * (σ 1 0 - 1)) 4 k = tlF (stC σ 1) k := by
  have hT : nT (stC σ 1) = σ 2 := h.T
  unfold tlF
  rw [hT]
  have hy : k = 0 ∨ k = 1 ∨ k = 2 ∨ k = 3 := by omega
  rcases hy with rfl | rfl | rfl | rfl
  · rw [exs_0]; rfl
  · rw [exs_1]; rfl
  · rw [exs_2]; rfl
  · rw [exs_3]; rfl
/-- mixing -/
def mxG (v : Int → Int) (h : Int) : Nat → Int
  | 0 => h
  | k + 1 => 31 * mxG v h k + bm (v k)
def mxC (C : Int) (v : Int → Int) (h : Int) : Nat → Int
  | 0 => h
  | k + 1 => if (k : Int) % 10 < C then 31 * mxC C v h k + bm (v k) else mxC C v h k
theorem mxG_s {v : Int → Int} {h i x : Int} (hi : 0 ≤ i) (hx : x = mxG v h i.toNat) : 31 * x + bm (v i) = mxG v h (i + 1).toNat := by
  subst hx
  obtain ⟨k, rfl⟩ : ∃ k : Nat, i = (k : Int) := ⟨i.toNat, by omega⟩
  rw [show ((k : Int) + 1).toNat = k + 1 by omega, show ((k : Int)).toNat = k by omega]
  rfl
theorem mxG_c {v w : Int → Int} {h : Int} : ∀ k : Nat, (∀ i : Int, 0 ≤ i → i < k → v i = w i) → mxG v h k = mxG w h k
  | 0, _ => rfl
  | k + 1, e => by
    simp only [mxG]
    rw [mxG_c k (fun i a b => e i a (by omega)), e k (by omega) (by omega)]
theorem mxC_s {C : Int} {v : Int → Int} {h i x : Int} (hi : 0 ≤ i) (hc : i % 10 < C) (hx : x = mxC C v h i.toNat) : 31 * x + bm (v i) = mxC C v h (i + 1).toNat := by
  subst hx
  obtain ⟨k, rfl⟩ : ∃ k : Nat, i = (k : Int) := ⟨i.toNat, by omega⟩
  rw [show ((k : Int) + 1).toNat = k + 1 by omega, show ((k : Int)).toNat = k by omega]
  simp only [mxC]; rw [if_pos hc]
theorem mxC_n {C : Int} {v : Int → Int} {h i : Int} (hi : 0 ≤ i) (hc : ¬ i % 10 < C) : mxC C v h i.toNat = mxC C v h (i + 1).toNat := by
  obtain ⟨k, rfl⟩ : ∃ k : Nat, i = (k : Int) := ⟨i.toNat, by omega⟩
  rw [show ((k : Int) + 1).toNat = k + 1 by omega, show ((k : Int)).toNat = k by omega]
  simp only [mxC]; rw [if_neg hc]
theorem mxC_k {C : Int} {v : Int → Int} {h i : Int} (hi : 0 ≤ i) : ∀ n : Nat, (∀ j, i ≤ j → j < i + n → ¬ j % 10 < C) → mxC C v h i.toNat = mxC C v h (i + n).toNat
  | 0, _ => by rw [show i + ((0 : Nat) : Int) = i by omega]
  | n + 1, e => by
    rw [mxC_k hi n (fun j a b => e j a (by omega)), mxC_n (by omega) (e (i + n) (by omega) (by omega))]
    congr 2; omega

set_option maxHeartbeats 1000000 in
set_option maxRecDepth 100000 in
theorem tX7_bound (G : GT) (σ : Sg)  (hR : 1 ≤ σ 1 0 ∧ σ 1 0 ≤ 10) : Ct G mX7_bound 1 0 0 false (SH Ω) (SH Ω) [Rf G 0] σ (fun rv sv => some (I ((σ 1 0 + σ 1 1) * hvB (σ 1 0))) = rv ∧ σ = sv) := by
  obtain ⟨P, hP⟩ : ∃ P : Option Value → Sg → Prop, P = (fun rv sv => some (I ((σ 1 0 + σ 1 1) * hvB (σ 1 0))) = rv ∧ σ = sv) := ⟨_, rfl⟩
  rw [← hP]
  refine ct_of (lv := [(0, Rf G 0)]) (by decide +kernel) (Nat.le_of_ble_eq_true rfl) rfl ?_
  refine r_iconst dX7_bound_0 ?_
  refine r_istore_n (lv' := [(0, Rf G 0), (1, I 0)]) dX7_bound_1 rfl (Nat.le_of_ble_eq_true rfl) rfl ?_
  refine r_aload_n dX7_bound_2 rfl rfl ?_
  refine r_getR (b := 1) dX7_bound_3 sh0 rfl (ci := 7) (j := 0) rfl (Nat.le_of_ble_eq_true rfl) ixX7 q131 rfl ?_
  refine r_getI (z := 0) dX7_bound_6 sh1 rfl (ci := 5) (j := 0) rfl (Nat.le_of_ble_eq_true rfl) rfl ixX5 q35 rfl (hv := rfl) ?_
  refine r_istore_n (lv' := [(0, Rf G 0), (1, I 0), (2, I (σ 1 0))]) dX7_bound_9 rfl (Nat.le_of_ble_eq_true rfl) rfl ?_
  have L10 : ∀ (mm : Nat) (h r : Int), r.toNat = mm → (hb : (h = 0 ∧ r = σ 1 0) ∨ (h = 1 ∧ r = σ 1 0 / 2) ∨ (h = 2 ∧ r = σ 1 0 / 4 ∧ 2 ≤ σ 1 0) ∨ (h = 3 ∧ r = σ 1 0 / 8 ∧ 4 ≤ σ 1 0) ∨ (h = 4 ∧ r = 0 ∧ 8 ≤ σ 1 0)) → Rn G mX7_bound (rmD 1 0 0) E0 (Zn G false (SH Ω) P 0 0) false (SH Ω) 0 0 10 [(0, Rf G 0), (1, I h), (2, I r)] [] σ := by
    intro mm
    induction mm using Nat.strongRecOn with
    | _ mm ih10 =>
    intro h r hm10 hb
    refine r_iload_n dX7_bound_10 rfl rfl ?_
    refine r_if_le (tgt := 24) dX7_bound_11 (by decide) (by omega) (fun hb1 => ?_) (fun hb1 => ?_)
    · skip
      refine r_aload_n dX7_bound_24 rfl rfl ?_
      refine r_getR (b := 1) dX7_bound_25 sh0 rfl (ci := 7) (j := 0) rfl (Nat.le_of_ble_eq_true rfl) ixX7 q131 rfl ?_
      refine r_getI (z := 0) dX7_bound_28 sh1 rfl (ci := 5) (j := 0) rfl (Nat.le_of_ble_eq_true rfl) rfl ixX5 q35 rfl (hv := rfl) ?_
      refine r_aload_n dX7_bound_31 rfl rfl ?_
      refine r_getR (b := 1) dX7_bound_32 sh0 rfl (ci := 7) (j := 0) rfl (Nat.le_of_ble_eq_true rfl) ixX7 q131 rfl ?_
      refine r_getI (z := 1) dX7_bound_35 sh1 rfl (ci := 5) (j := 1) rfl (Nat.le_of_ble_eq_true rfl) rfl ixX5 q39 rfl (hv := rfl) ?_
      refine r_iadd dX7_bound_38 ?_
      refine r_iload_n dX7_bound_39 rfl rfl ?_
      refine r_imul dX7_bound_40 ?_
      exact r_iret dX7_bound_41 rfl (by rw [hP]; exact ⟨by rw [hvB_is hR.1 (by omega) hb], rfl⟩)
    · skip
      refine r_iinc (lv' := [(0, Rf G 0), (1, I (h + 1)), (2, I r)]) dX7_bound_14 (Nat.le_of_ble_eq_true rfl) rfl rfl ?_
      refine r_iload_n dX7_bound_17 rfl rfl ?_
      refine r_iconst dX7_bound_18 ?_
      refine r_idiv dX7_bound_19 (by omega) ?_
      refine r_istore_n (lv' := [(0, Rf G 0), (1, I (h + 1)), (2, I (r / 2))]) dX7_bound_20 rfl (Nat.le_of_ble_eq_true rfl) rfl ?_
      refine r_goto (tgt := 10) dX7_bound_21 (by decide) ?_
      exact ih10 _ (by omega) (h + 1) (r / 2) rfl (by omega)
  exact L10 _ 0 _ rfl (Or.inl ⟨rfl, rfl⟩)
set_option maxHeartbeats 1000000 in
set_option maxRecDepth 100000 in
theorem tX7_counted (G : GT) (σ : Sg) (k : Int) (hci : CI σ) (h : 0 ≤ k ∧ k ≤ 8) : Ct G mX7_counted 16 0 0 false (SH Ω) (SH Ω) [Rf G 0, I k] σ (fun rv sv => some (I (cnF (stC σ 1) (σ 18 0) k)) = rv ∧ Qs σ sv) := by
  obtain ⟨P, hP⟩ : ∃ P : Option Value → Sg → Prop, P = (fun rv sv => some (I (cnF (stC σ 1) (σ 18 0) k)) = rv ∧ Qs σ sv) := ⟨_, rfl⟩
  rw [← hP]
  refine ct_of (lv := [(0, Rf G 0), (1, I k)]) (by decide +kernel) (Nat.le_of_ble_eq_true rfl) rfl ?_
  have hT0 : nT (stC σ 1) = σ 2 := hci.T
  have hci0 := hci.us
  refine r_iload_n dX7_counted_0 rfl rfl ?_
  have hw1 : k = 0 ∨ k = 1 ∨ k = 2 ∨ k = 3 ∨ k = 4 ∨ k = 5 ∨ k = 6 ∨ k = 7 ∨ k = 8 := by omega
  rcases hw1 with rfl | rfl | rfl | rfl | rfl | rfl | rfl | rfl | rfl
  · skip
    refine r_tableIn (off := 47) (tgt := 48) dX7_counted_1 (by omega) rfl (by decide) ?_
    refine r_aload_n dX7_counted_48 rfl rfl ?_
    refine r_getR (b := 1) dX7_counted_49 sh0 rfl (ci := 7) (j := 0) rfl (Nat.le_of_ble_eq_true rfl) ixX7 q131 rfl ?_
    refine r_getI (z := 0) dX7_counted_52 sh1 rfl (ci := 5) (j := 0) rfl (Nat.le_of_ble_eq_true rfl) rfl ixX5 q35 rfl (hv := rfl) ?_
    exact r_iret dX7_counted_55 rfl (by rw [hP]; exact ⟨rfl, (Qs.refl σ)⟩)
  · skip
    refine r_tableIn (off := 55) (tgt := 56) dX7_counted_1 (by omega) rfl (by decide) ?_
    refine r_aload_n dX7_counted_56 rfl rfl ?_
    refine r_getR (b := 1) dX7_counted_57 sh0 rfl (ci := 7) (j := 0) rfl (Nat.le_of_ble_eq_true rfl) ixX7 q131 rfl ?_
    refine r_getI (z := 1) dX7_counted_60 sh1 rfl (ci := 5) (j := 1) rfl (Nat.le_of_ble_eq_true rfl) rfl ixX5 q39 rfl (hv := rfl) ?_
    exact r_iret dX7_counted_63 rfl (by rw [hP]; exact ⟨rfl, (Qs.refl σ)⟩)
  · skip
    refine r_tableIn (off := 63) (tgt := 64) dX7_counted_1 (by omega) rfl (by decide) ?_
    refine r_aload_n dX7_counted_64 rfl rfl ?_
    refine r_getR (b := 1) dX7_counted_65 sh0 rfl (ci := 7) (j := 0) rfl (Nat.le_of_ble_eq_true rfl) ixX7 q131 rfl ?_
    refine r_getI (z := 2) dX7_counted_68 sh1 rfl (ci := 5) (j := 2) rfl (Nat.le_of_ble_eq_true rfl) rfl ixX5 q43 rfl (hv := rfl) ?_
    exact r_iret dX7_counted_71 rfl (by rw [hP]; exact ⟨rfl, (Qs.refl σ)⟩)
  · skip
    refine r_tableIn (off := 71) (tgt := 72) dX7_counted_1 (by omega) rfl (by decide) ?_
    refine r_aload_n dX7_counted_72 rfl rfl ?_
    refine r_getR (b := 1) dX7_counted_73 sh0 rfl (ci := 7) (j := 0) rfl (Nat.le_of_ble_eq_true rfl) ixX7 q131 rfl ?_
    refine r_callV (tX5_weightsTogether G σ  (hci.us.2.2.1)) dX7_counted_76 svX5_weightsTogether q356 sh1 (ci := 5) rfl rfl rfl ⟨Nat.le_of_ble_eq_true rfl, Nat.le_of_ble_eq_true rfl⟩ (Nat.le_of_ble_eq_true rfl) ⟨Nat.le_of_ble_eq_true rfl, Nat.le_of_ble_eq_true rfl⟩ ?_
    rintro _ _ ⟨rfl, rfl⟩
    exact r_iret dX7_counted_79 rfl (by rw [hP]; exact ⟨by show some (I (wsum (rs (σ 1 2) (σ 3)) (σ 1 2).toNat)) = _; rw [wsum_c (g := σ 3) _ (fun r a b => rs_at (by omega))], (Qs.refl σ)⟩)
  · skip
    refine r_tableIn (off := 79) (tgt := 80) dX7_counted_1 (by omega) rfl (by decide) ?_
    refine r_aload_n dX7_counted_80 rfl rfl ?_
    refine r_getR (b := 1) dX7_counted_81 sh0 rfl (ci := 7) (j := 0) rfl (Nat.le_of_ble_eq_true rfl) ixX7 q131 rfl ?_
    refine r_getI (z := 3) dX7_counted_84 sh1 rfl (ci := 5) (j := 3) rfl (Nat.le_of_ble_eq_true rfl) rfl ixX5 q45 rfl (hv := rfl) ?_
    exact r_iret dX7_counted_87 rfl (by rw [hP]; exact ⟨rfl, (Qs.refl σ)⟩)
  · skip
    refine r_tableIn (off := 87) (tgt := 88) dX7_counted_1 (by omega) rfl (by decide) ?_
    refine r_aload_n dX7_counted_88 rfl rfl ?_
    refine r_getR (b := 1) dX7_counted_89 sh0 rfl (ci := 7) (j := 0) rfl (Nat.le_of_ble_eq_true rfl) ixX7 q131 rfl ?_
    refine r_getI (z := 4) dX7_counted_92 sh1 rfl (ci := 5) (j := 4) rfl (Nat.le_of_ble_eq_true rfl) rfl ixX5 q47 rfl (hv := rfl) ?_
    exact r_iret dX7_counted_95 rfl (by rw [hP]; exact ⟨rfl, (Qs.refl σ)⟩)
  · skip
    refine r_tableIn (off := 95) (tgt := 96) dX7_counted_1 (by omega) rfl (by decide) ?_
    refine r_aload_n dX7_counted_96 rfl rfl ?_
    refine r_getR (b := 1) dX7_counted_97 sh0 rfl (ci := 7) (j := 0) rfl (Nat.le_of_ble_eq_true rfl) ixX7 q131 rfl ?_
    refine r_getI (z := 5) dX7_counted_100 sh1 rfl (ci := 5) (j := 5) rfl (Nat.le_of_ble_eq_true rfl) rfl ixX5 q49 rfl (hv := rfl) ?_
    exact r_iret dX7_counted_103 rfl (by rw [hP]; exact ⟨rfl, (Qs.refl σ)⟩)
  · skip
    refine r_tableIn (off := 103) (tgt := 104) dX7_counted_1 (by omega) rfl (by decide) ?_
    refine r_aload_n dX7_counted_104 rfl rfl ?_
    refine r_getR (b := 5) dX7_counted_105 sh0 rfl (ci := 7) (j := 2) rfl (Nat.le_of_ble_eq_true rfl) ixX7 q133 rfl ?_
    refine r_iconst dX7_counted_108 ?_
    refine r_callV (tX1_seek G σ 0 (by omega) (hci.us.1) (hci.us.2.1) (hci.us.2.2.2.1) (hci.us.2.2.2.2.2.1)) dX7_counted_109 svX1_seek q262 sh5 (ci := 1) rfl rfl rfl ⟨Nat.le_of_ble_eq_true rfl, Nat.le_of_ble_eq_true rfl⟩ (Nat.le_of_ble_eq_true rfl) ⟨Nat.le_of_ble_eq_true rfl, Nat.le_of_ble_eq_true rfl⟩ ?_
    rintro _ s ⟨rfl, hp⟩
    have e1 := hp.1 1 (by decide) (by decide) (by decide) (by decide) (by decide)
    refine r_aload_n dX7_counted_112 rfl rfl ?_
    refine r_getR (b := 5) dX7_counted_113 sh0 rfl (ci := 7) (j := 2) rfl (Nat.le_of_ble_eq_true rfl) ixX7 q133 rfl ?_
    refine r_callV (tX1_placesGoneBack G s  (((Qs.sk hp).ci hci).us.1) (hp.2.1)) dX7_counted_116 svX1_placesGoneBack q365 sh5 (ci := 1) rfl rfl rfl ⟨Nat.le_of_ble_eq_true rfl, Nat.le_of_ble_eq_true rfl⟩ (Nat.le_of_ble_eq_true rfl) ⟨Nat.le_of_ble_eq_true rfl, Nat.le_of_ble_eq_true rfl⟩ ?_
    rintro _ _ ⟨rfl, rfl⟩
    rw [show s 1 0 = σ 1 0 from congrFun (hp.1 1 (by decide) (by decide) (by decide) (by decide) (by decide)) 0]
    exact r_iret dX7_counted_119 rfl (by rw [hP]; exact ⟨by show some (I (gbk (PW (nT (stC σ 1)) (σ 1 0) (σ 1 1) 0) (σ 1 0 - 1).toNat)) = _; rw [hT0, gbk_c2 (g := fun r => s 6 (10 * 0 + r)) _ (fun r a b => (hp.2.2.2.2.1 r a (by omega)).symm)]; try rw [e1], (((Qs.refl σ)).tr (Qs.sk hp))⟩)
  · skip
    refine r_tableOut (tgt := 120) dX7_counted_1 (by omega) (by decide) ?_
    refine r_aload_n dX7_counted_120 rfl rfl ?_
    refine r_getR (b := 18) dX7_counted_121 sh0 rfl (ci := 7) (j := 5) rfl (Nat.le_of_ble_eq_true rfl) ixX7 q136 rfl ?_
    refine r_getI (z := 0) dX7_counted_124 sh18 rfl (ci := 2) (j := 0) rfl (Nat.le_of_ble_eq_true rfl) rfl ixX2 q116 rfl (hv := rfl) ?_
    exact r_iret dX7_counted_127 rfl (by rw [hP]; exact ⟨rfl, (Qs.refl σ)⟩)
