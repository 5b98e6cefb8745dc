variable {Ω : List Ob}

theorem hvL_bd {T : Int → Int} {W : Int} : ∀ (f : Nat) (a b p q : Int), 0 ≤ p → p ≤ q → q - p + 1 ≤ W → a ≤ b + 1 → 0 ≤ hvL T f a b p q ∧ hvL T f a b p q ≤ (b - a + 1) * W
  | 0, a, b, p, q, _, h1, h2, h3 => ⟨Int.le_refl _, Int.mul_nonneg (by omega) (by omega)⟩
  | f + 1, a, b, p, q, hp, h1, h2, h3 => by
    by_cases c : b < a
    · rw [hvL_0 c, show b - a + 1 = 0 by omega, Int.zero_mul]; omega
    · have hb := lsI_bd (T := T) (row := (a + b) / 2) hp h1
      have i1 := hvL_bd (T := T) (W := W) f a ((a + b) / 2 - 1) p (lsI T ((a + b) / 2) p q) hp hb.1 (by omega) (by omega)
      have i2 := hvL_bd (T := T) (W := W) f ((a + b) / 2 + 1) b (lsI T ((a + b) / 2) p q) q (by omega) hb.2 (by omega) (by omega)
      have e : (b - a + 1) * W = W + ((a + b) / 2 - 1 - a + 1) * W + (b - ((a + b) / 2 + 1) + 1) * W := by
        rw [show b - a + 1 = 1 + ((a + b) / 2 - 1 - a + 1) + (b - ((a + b) / 2 + 1) + 1) by omega, Int.add_mul, Int.add_mul, Int.one_mul]
      rw [e]
      simp only [hvL]
      rw [if_neg c]
      omega
theorem LW0 {T : Int → Int} {R C : Int} : LW T R C 0 = C * R := by unfold LW; rw [if_pos rfl]
theorem LW1_bd {T : Int → Int} {R C : Int} (hR : 1 ≤ R ∧ R ≤ 10) (hC : 1 ≤ C ∧ C ≤ 10) : 1 ≤ LW T R C 1 ∧ LW T R C 1 ≤ C * R := by
  have e : LW T R C 1 = hvL T 10 0 (R - 1) 0 (C - 1) := by unfold LW; rw [if_neg (by decide), if_pos rfl]
  have h1 := hvL_bd (T := T) (W := C) 10 0 (R - 1) 0 (C - 1) (by omega) (by omega) (by omega) (by omega)
  rw [show R - 1 - 0 + 1 = R by omega, Int.mul_comm] at h1
  rw [e]
  refine ⟨?_, h1.2⟩
  have hb := lsI_bd (T := T) (row := (0 + (R - 1)) / 2) (p := 0) (q := C - 1) (by omega) (by omega)
  have i1 := hvL_bd (T := T) (W := C) 9 0 ((0 + (R - 1)) / 2 - 1) 0 (lsI T ((0 + (R - 1)) / 2) 0 (C - 1)) (by omega) hb.1 (by omega) (by omega)
  have i2 := hvL_bd (T := T) (W := C) 9 ((0 + (R - 1)) / 2 + 1) (R - 1) (lsI T ((0 + (R - 1)) / 2) 0 (C - 1)) (C - 1) (by omega) hb.2 (by omega) (by omega)
  simp only [hvL] at i1 i2 ⊢
  rw [if_neg (by omega)]
  omega
def shF (x : St) : UInt64 := if Kp x.1 x.2.1 (nT x) then dvK (LW (nT x) x.1 x.2.1 1) (x.2.1 * x.1) else FP.dconst0
theorem lkW_y {σ : Sg} {w : Int} (hT : nT (stC σ 1) = σ 2) (h : w = 0 ∨ Kp (σ 1 0) (σ 1 1) (σ 2)) : lkW (stC σ 1) w = LW (σ 2) (σ 1 0) (σ 1 1) w := by unfold lkW; rw [hT]; exact if_pos h
theorem lkW_n {σ : Sg} {w : Int} (hT : nT (stC σ 1) = σ 2) (h : ¬ (w = 0 ∨ Kp (σ 1 0) (σ 1 1) (σ 2))) : lkW (stC σ 1) w = -1 := by unfold lkW; rw [hT]; exact if_neg h
theorem plW_y {σ : Sg} {w r : Int} (hT : nT (stC σ 1) = σ 2) (h : w = 0 ∨ Kp (σ 1 0) (σ 1 1) (σ 2)) : plW (stC σ 1) w r = PW (σ 2) (σ 1 0) (σ 1 1) w r := by unfold plW; rw [hT]; exact if_pos h
theorem plW_n {σ : Sg} {w r : Int} (hT : nT (stC σ 1) = σ 2) (h : ¬ (w = 0 ∨ Kp (σ 1 0) (σ 1 1) (σ 2))) : plW (stC σ 1) w r = -1 := by unfold plW; rw [hT]; exact if_neg h
theorem shF_y {σ : Sg} (hT : nT (stC σ 1) = σ 2) (h : Kp (σ 1 0) (σ 1 1) (σ 2)) : shF (stC σ 1) = dvK (LW (σ 2) (σ 1 0) (σ 1 1) 1) (σ 1 1 * σ 1 0) := by unfold shF; rw [hT]; exact if_pos h
theorem shF_n {σ : Sg} (hT : nT (stC σ 1) = σ 2) (h : ¬ Kp (σ 1 0) (σ 1 1) (σ 2)) : shF (stC σ 1) = FP.dconst0 := by unfold shF; rw [hT]; exact if_neg h
theorem bOK_u {x : UInt64} {i : Nat} (h : bOK x i = true) : Op.cmpValue (FP.dcmp x FP.dconst0) .l = Int32.ofInt 1 ∧ Op.cmpValue (FP.dcmp x x) .l = Int32.ofInt 0 ∧ (∀ j : Nat, j < i → Op.cmpValue (FP.dcmp (bz x j) FP.dconst1) .g = Int32.ofInt (-1) ∧ vf_n64 (FP.dmul (bz x j) (4611686018427387904 : UInt64))) ∧
    (∃ z : Int, Op.cmpValue (FP.dcmp (bz x i) FP.dconst1) .g = Int32.ofInt z ∧ 0 ≤ z ∧ z ≤ 1) ∧ vf_n64 (FP.dsub (bz x i) FP.dconst1) ∧ vf_n64 (bfr x i) ∧ vf_n64 x ∧ Int64.ofInt ((1023 - (i : Int)) * 4503599627370496 + (FP.d2l (bfr x i)).toInt) = x.toInt64 := by
  unfold bOK at h
  simp only [Bool.and_eq_true, Bool.or_eq_true, beq_iff_eq, List.all_eq_true, List.mem_range] at h
  obtain ⟨⟨⟨⟨⟨⟨⟨h1, h2⟩, h3⟩, h4⟩, h5⟩, h6⟩, h7⟩, h8⟩ := h
  refine ⟨h1, h2, fun j hj => ⟨(h3 j hj).1, n64b_is (h3 j hj).2⟩, ?_, n64b_is h5, n64b_is h6, n64b_is h7, h8⟩
  rcases h4 with h | h
  · exact ⟨0, h, by omega, by omega⟩
  · exact ⟨1, h, by omega, by omega⟩
theorem b_fin {x y : UInt64} {i e : Int} {i0 : Nat} (hb : bOK x i0 = true) (hi : i = i0) (he : e = 1023 - i) (hy : y = bz x i.toNat) :
    Int64.ofInt (e * 4503599627370496 + (FP.d2l (FP.dmul (FP.dsub y FP.dconst1) (4841369599423283200 : UInt64))).toInt) = Int64.ofInt (dbv x) := by
  subst hi he hy
  have h := (bOK_u hb).2.2.2.2.2.2.2
  rw [show ((i0 : Int)).toNat = i0 by omega]
  unfold dbv
  rw [Int64.ofInt_toInt]
  exact h
/-- places and looks of a state by a way, as far as it is open -/
def DP (σ s : Sg) (v : Int) : Prop := s 7 v = lkW (stC σ 1) v ∧ ∀ r, 0 ≤ r → r < σ 1 0 → s 6 (10 * v + r) = plW (stC σ 1) v r
def AllP (σ s : Sg) : Prop := (∀ k, 0 ≤ k → k ≤ 3 → s 4 k = tlF (stC σ 1) k) ∧ ∀ v, 0 ≤ v → v ≤ 2 → DP σ s v
theorem all_sk {σ s t : Sg} {w : Int} (hci : CI σ) (hw : 0 ≤ w ∧ w ≤ 2) (hq : Qs σ s) (hk : SeekP s t w) (hop : w = 0 ∨ Kp (σ 1 0) (σ 1 1) (σ 2)) (hd : ∀ v, 0 ≤ v → v < w → DP σ s v) : ∀ v, 0 ≤ v → v < w + 1 → DP σ t v := by
  have hT : nT (stC σ 1) = σ 2 := hci.T
  have hR := hci.us.1
  obtain ⟨k1, k2, k3, k4, k5, k6⟩ := hk
  rw [hq.1 1 (by decide), hq.1 2 (by decide)] at k3
  intro v h0 h1
  by_cases e : v = w
  · subst e
    refine ⟨?_, fun r a b => ?_⟩
    · rw [k3]; rw [lkW_y hT hop]
    · rw [k5 r a (by rw [hq.1 1 (by decide)]; exact b), hq.1 1 (by decide), hq.1 2 (by decide)]; rw [plW_y hT hop]
  · have h2 := hd v h0 (by omega)
    exact ⟨by rw [k4 v e]; exact h2.1, fun r a b => by rw [k6 _ (by omega)]; exact h2.2 r a b⟩
theorem all_tn {σ s : Sg} {w : Int} (hci : CI σ) (hw : 0 ≤ w ∧ w ≤ 2) (hop : ¬ (w = 0 ∨ Kp (σ 1 0) (σ 1 1) (σ 2))) (hd : ∀ v, 0 ≤ v → v < w → DP σ s v) : ∀ v, 0 ≤ v → v < w + 1 → DP σ (up (ov s 6 (10 * w) (10 * w + 10) (fun _ => -1)) 7 w (-1)) v := by
  have hT : nT (stC σ 1) = σ 2 := hci.T
  have hR := hci.us.1
  intro v h0 h1
  by_cases e : v = w
  · subst e
    refine ⟨?_, fun r a b => ?_⟩
    · rw [up_eq]; rw [lkW_n hT hop]
    · rw [up_ne (by decide), ov_at, if_pos (by omega)]; rw [plW_n hT hop]
  · have h2 := hd v h0 (by omega)
    refine ⟨by rw [up_nj e, ov_ne (by decide)]; exact h2.1, fun r a b => ?_⟩
    rw [up_ne (by decide), ov_at, if_neg (by omega)]
    exact h2.2 r a b
def hpF (x : St) (R C h : Int) : Int := mxG (tlF x) (31 * mxG (lkW x) (mxG (fun k => plW x (k % 3) (k / 3)) h (3 * R).toNat) 3 + bm ((R + C) * hvB R)) 4
def cuF (w : Int → Int) (n p h : Int) : Int := mxG (fun c => ctF w p n (p - c - 1).toNat) (31 * (31 * h + bm (dpC w p.toNat n).1) + bm (dpC w p.toNat n).1) (p - 1).toNat
def cuA (w : Int → Int) (n h : Int) : Nat → Int
  | 0 => h
  | p + 1 => cuF w n ((p : Int) + 1) (cuA w n h p)
theorem cuA_s {w : Int → Int} {n h p x : Int} (hp : 1 ≤ p) (hx : x = cuA w n h (p - 1).toNat) : cuF w n p x = cuA w n h p.toNat := by
  subst hx
  obtain ⟨k, rfl⟩ : ∃ k : Nat, p = (k : Int) + 1 := ⟨(p - 1).toNat, by omega⟩
  rw [show ((k : Int) + 1 - 1).toNat = k by omega, show ((k : Int) + 1).toNat = k + 1 by omega]
  rfl
def hwF (w : Int → Int) (n h : Int) : Int := 31 * cuA w n (mxG w h n.toNat) n.toNat + bm (fwF (fun q => (dpC w q.toNat n).1) 1000 n.toNat)
theorem cuF_c {f g : Int → Int} {n p h : Int} (e : ∀ r : Int, 0 ≤ r → r < n → f r = g r) (hw : ∀ i : Int, 0 ≤ i → i < n → 1 ≤ g i ∧ g i ≤ 99) (hn : n ≤ 10) (hp : 1 ≤ p ∧ p ≤ n) : cuF f n p h = cuF g n p h := by
  unfold cuF
  rw [dpC_c e p.toNat n (by omega) (by omega)]
  apply mxG_c
  intro c a b
  exact (ctF_c e hw hn hp.2 (by omega) (p - c - 1).toNat (by omega)).1
theorem cuA_c {f g : Int → Int} {n h : Int} (e : ∀ r : Int, 0 ≤ r → r < n → f r = g r) (hw : ∀ i : Int, 0 ≤ i → i < n → 1 ≤ g i ∧ g i ≤ 99) (hn : n ≤ 10) : ∀ k : Nat, (k : Int) ≤ n → cuA f n h k = cuA g n h k
  | 0, _ => rfl
  | k + 1, hk => by
    simp only [cuA]
    rw [cuA_c e hw hn k (by omega), cuF_c e hw hn (by omega)]
theorem hwF_c {f g : Int → Int} {n h : Int} (e : ∀ r : Int, 0 ≤ r → r < n → f r = g r) (hw : ∀ i : Int, 0 ≤ i → i < n → 1 ≤ g i ∧ g i ≤ 99) (hn : 0 ≤ n ∧ n ≤ 10) : hwF f n h = hwF g n h := by
  unfold hwF
  rw [mxG_c n.toNat (fun i a b => e i a (by omega)), cuA_c e hw hn.2 n.toNat (by omega), fwF_rs e]
def flO (o : Option St) : Int := match o with
  | none => 0
  | some _ => 1

set_option maxHeartbeats 1000000 in
set_option maxRecDepth 100000 in
theorem tX1_shareOfHalves (G : GT) (σ : Sg) (k n : Int) (e0 : σ 7 0 = n) (e1 : σ 7 1 = k) (hn : 1 ≤ n ∧ n ≤ 100) (hv : vf_n64 (dvK k n)) : Ct G mX1_shareOfHalves 3 0 0 false (SH Ω) (SH Ω) [Rf G 5] σ (fun rv sv => some (Value.double (dvK k n)) = rv ∧ σ = sv) := by
  obtain ⟨P, hP⟩ : ∃ P : Option Value → Sg → Prop, P = (fun rv sv => some (Value.double (dvK k n)) = rv ∧ σ = sv) := ⟨_, rfl⟩
  rw [← hP]
  refine ct_of (lv := [(0, Rf G 5)]) (by decide +kernel) (Nat.le_of_ble_eq_true rfl) rfl ?_
  refine r_aload_n dX1_shareOfHalves_0 rfl rfl ?_
  refine r_iconst dX1_shareOfHalves_1 ?_
  refine r_callV (tX1_looksBy G σ 0 (by omega)) dX1_shareOfHalves_2 svX1_looksBy q561 sh5 (ci := 1) rfl rfl rfl ⟨Nat.le_of_ble_eq_true rfl, Nat.le_of_ble_eq_true rfl⟩ (Nat.le_of_ble_eq_true rfl) ⟨Nat.le_of_ble_eq_true rfl, Nat.le_of_ble_eq_true rfl⟩ ?_
  rintro _ _ ⟨rfl, rfl⟩
  rw [e0]
  refine r_istore_n (lv' := [(0, Rf G 5), (1, I n)]) dX1_shareOfHalves_5 rfl (Nat.le_of_ble_eq_true rfl) rfl ?_
  refine r_iload_n dX1_shareOfHalves_6 rfl rfl ?_
  refine r_if_gt (tgt := 14) dX1_shareOfHalves_7 (by decide) (by omega) (fun hb1 => ?_) (fun hb1 => ?_)
  · skip
    refine r_aload_n dX1_shareOfHalves_14 rfl rfl ?_
    refine r_iconst dX1_shareOfHalves_15 ?_
    refine r_callV (tX1_looksBy G σ 1 (by omega)) dX1_shareOfHalves_16 svX1_looksBy q561 sh5 (ci := 1) rfl rfl rfl ⟨Nat.le_of_ble_eq_true rfl, Nat.le_of_ble_eq_true rfl⟩ (Nat.le_of_ble_eq_true rfl) ⟨Nat.le_of_ble_eq_true rfl, Nat.le_of_ble_eq_true rfl⟩ ?_
    rintro _ _ ⟨rfl, rfl⟩
    rw [e1]
    refine r_i2d dX1_shareOfHalves_19 ?_
    refine r_iload_n dX1_shareOfHalves_20 rfl rfl ?_
    refine r_i2d dX1_shareOfHalves_21 ?_
    refine r_ddiv dX1_shareOfHalves_22 (hv) ?_
    exact r_dret dX1_shareOfHalves_23 rfl (by rw [hP]; exact ⟨rfl, rfl⟩)
  · skip
    exact absurd hb1 (by omega)
set_option maxHeartbeats 1000000 in
set_option maxRecDepth 100000 in
theorem tX7_halfShare (G : GT) (σ : Sg)  (hci : CI σ) : Ct G mX7_halfShare 16 0 0 false (SH Ω) (SH Ω) [Rf G 0] σ (fun rv sv => some (.double (shF (stC σ 1))) = rv ∧ Qs σ sv) := by
  obtain ⟨P, hP⟩ : ∃ P : Option Value → Sg → Prop, P = (fun rv sv => some (.double (shF (stC σ 1))) = rv ∧ Qs σ sv) := ⟨_, rfl⟩
  rw [← hP]
  refine ct_of (lv := [(0, Rf G 0)]) (by decide +kernel) (Nat.le_of_ble_eq_true rfl) rfl ?_
  have hci0 := hci.us
  have hT0 : nT (stC σ 1) = σ 2 := hci.T
  obtain ⟨hR, hC, -⟩ := hci0
  refine r_aload_n dX7_halfShare_0 rfl rfl ?_
  refine r_getR (b := 4) dX7_halfShare_1 sh0 rfl (ci := 7) (j := 1) rfl (Nat.le_of_ble_eq_true rfl) ixX7 q132 rfl ?_
  refine r_callV (tX3_isKept G σ  (hci.us.1) (hci.us.2.1) (hci.us.2.2.2.1)) dX7_halfShare_4 svX3_isKept q224 sh4 (ci := 3) rfl rfl rfl ⟨Nat.le_of_ble_eq_true rfl, Nat.le_of_ble_eq_true rfl⟩ (Nat.le_of_ble_eq_true rfl) ⟨Nat.le_of_ble_eq_true rfl, Nat.le_of_ble_eq_true rfl⟩ ?_
  rintro _ _ ⟨⟨hk, rfl⟩ | ⟨hk, rfl⟩, rfl⟩
  · skip
    refine r_if_ne (tgt := 12) dX7_halfShare_7 (by decide) (by omega) (fun hb1 => ?_) (fun hb1 => ?_)
    · skip
      refine r_aload_n dX7_halfShare_12 rfl rfl ?_
      refine r_getR (b := 5) dX7_halfShare_13 sh0 rfl (ci := 7) (j := 2) rfl (Nat.le_of_ble_eq_true rfl) ixX7 q133 rfl ?_
      refine r_iconst dX7_halfShare_16 ?_
      refine r_callV (tX1_seek G (exs σ (100 * (σ 1 0 - 1))) 0 (by omega) ((Qs.ex.ci hci).us.1) ((Qs.ex.ci hci).us.2.1) ((Qs.ex.ci hci).us.2.2.2.1) ((Qs.ex.ci hci).us.2.2.2.2.2.1)) dX7_halfShare_17 svX1_seek q262 sh5 (ci := 1) rfl rfl rfl ⟨Nat.le_of_ble_eq_true rfl, Nat.le_of_ble_eq_true rfl⟩ (Nat.le_of_ble_eq_true rfl) ⟨Nat.le_of_ble_eq_true rfl, Nat.le_of_ble_eq_true rfl⟩ ?_
      rintro _ s ⟨rfl, h1⟩
      have a1 : s 1 = σ 1 := by rw [h1.1 1 (by decide) (by decide) (by decide) (by decide) (by decide), exs_ne (by decide)]
      have a2 : s 2 = σ 2 := by rw [h1.1 2 (by decide) (by decide) (by decide) (by decide) (by decide), exs_ne (by decide)]
      refine r_aload_n dX7_halfShare_20 rfl rfl ?_
      refine r_getR (b := 5) dX7_halfShare_21 sh0 rfl (ci := 7) (j := 2) rfl (Nat.le_of_ble_eq_true rfl) ixX7 q133 rfl ?_
      refine r_iconst dX7_halfShare_24 ?_
      refine r_callV (tX1_seek G s 1 (by omega) (((Qs.sk h1).ci (Qs.ex.ci hci)).us.1) (((Qs.sk h1).ci (Qs.ex.ci hci)).us.2.1) (((Qs.sk h1).ci (Qs.ex.ci hci)).us.2.2.2.1) (((Qs.sk h1).ci (Qs.ex.ci hci)).us.2.2.2.2.2.1)) dX7_halfShare_25 svX1_seek q262 sh5 (ci := 1) rfl rfl rfl ⟨Nat.le_of_ble_eq_true rfl, Nat.le_of_ble_eq_true rfl⟩ (Nat.le_of_ble_eq_true rfl) ⟨Nat.le_of_ble_eq_true rfl, Nat.le_of_ble_eq_true rfl⟩ ?_
      rintro _ t ⟨rfl, h2⟩
      refine r_aload_n dX7_halfShare_28 rfl rfl ?_
      refine r_getR (b := 5) dX7_halfShare_29 sh0 rfl (ci := 7) (j := 2) rfl (Nat.le_of_ble_eq_true rfl) ixX7 q133 rfl ?_
      refine r_callV (tX1_shareOfHalves G t (LW (σ 2) (σ 1 0) (σ 1 1) 1) (σ 1 1 * σ 1 0) (by rw [h2.2.2.2.1 0 (by decide), h1.2.2.1, exs_ne (by decide), exs_ne (by decide), LW0]) (by rw [h2.2.2.1, a1, a2]) (by have h3 := LW1_bd (T := σ 2) hR hC; have h4 : σ 1 1 * σ 1 0 ≤ 10 * 10 := Int.mul_le_mul hC.2 hR.2 (by omega) (by omega); omega) (by obtain ⟨i, -, hb⟩ := b_rc hR hC (LW1_bd (T := σ 2) hR hC); exact (bOK_u hb).2.2.2.2.2.2.1)) dX7_halfShare_32 svX1_shareOfHalves q557 sh5 (ci := 1) rfl rfl rfl ⟨Nat.le_of_ble_eq_true rfl, Nat.le_of_ble_eq_true rfl⟩ (Nat.le_of_ble_eq_true rfl) ⟨Nat.le_of_ble_eq_true rfl, Nat.le_of_ble_eq_true rfl⟩ ?_
      rintro _ _ ⟨rfl, rfl⟩
      exact r_dret dX7_halfShare_35 rfl (by rw [hP]; exact ⟨by rw [shF_y hT0 hk], (((((((Qs.refl σ)).tr Qs.ex)).tr (Qs.sk h1))).tr (Qs.sk h2))⟩)
    · skip
      exact absurd hb1 (by omega)
  · skip
    refine r_if_ne (tgt := 12) dX7_halfShare_7 (by decide) (by omega) (fun hb2 => ?_) (fun hb2 => ?_)
    · skip
      exact absurd hb2 (by omega)
    · skip
      refine r_dconst0 dX7_halfShare_10 ?_
      exact r_dret dX7_halfShare_11 rfl (by rw [hP]; exact ⟨by rw [shF_n hT0 hk], (((Qs.refl σ)).tr Qs.ex)⟩)
