
theorem hvL_bd {T : Int → Int} {W : Int} : ∀ (f : Nat) (a b p q : Int), 0 ≤ p → p ≤ q → q - p + 1 ≤ W → a ≤ b + 1 → 0 ≤ hvL T f a b p q ∧ hvL T f a b p q ≤ (b - a + 1) * W
  | 0, a, b, p, q, _, h1, h2, h3 => ⟨Int.le_refl _, Int.mul_nonneg (by omega) (by omega)⟩
  | f + 1, a, b, p, q, hp, h1, h2, h3 => by
    by_cases c : b < a
    · rw [hvL_0 c, show b - a + 1 = 0 by omega, Int.zero_mul]; omega
    · have hb := lsI_bd (T := T) (row := (a + b) / 2) hp h1
      have i1 := hvL_bd (T := T) (W := W) f a ((a + b) / 2 - 1) p (lsI T ((a + b) / 2) p q) hp hb.1 (by omega) (by omega)
      have i2 := hvL_bd (T := T) (W := W) f ((a + b) / 2 + 1) b (lsI T ((a + b) / 2) p q) q (by omega) hb.2 (by omega) (by omega)
      have e : (b - a + 1) * W = W + ((a + b) / 2 - 1 - a + 1) * W + (b - ((a + b) / 2 + 1) + 1) * W := by
        rw [show b - a + 1 = 1 + ((a + b) / 2 - 1 - a + 1) + (b - ((a + b) / 2 + 1) + 1) by omega, Int.add_mul, Int.add_mul, Int.one_mul]
      rw [e]
      simp only [hvL]
      rw [if_neg c]
      omega
theorem LW0 {T : Int → Int} {R C : Int} : LW T R C 0 = C * R := by unfold LW; rw [if_pos rfl]
theorem LW1_bd {T : Int → Int} {R C : Int} (hR : 1 ≤ R ∧ R ≤ 10) (hC : 1 ≤ C ∧ C ≤ 10) : 1 ≤ LW T R C 1 ∧ LW T R C 1 ≤ C * R := by
  have e : LW T R C 1 = hvL T 10 0 (R - 1) 0 (C - 1) := by unfold LW; rw [if_neg (by decide), if_pos rfl]
  have h1 := hvL_bd (T := T) (W := C) 10 0 (R - 1) 0 (C - 1) (by omega) (by omega) (by omega) (by omega)
  rw [show R - 1 - 0 + 1 = R by omega, Int.mul_comm] at h1
  rw [e]
  refine ⟨?_, h1.2⟩
  have hb := lsI_bd (T := T) (row := (0 + (R - 1)) / 2) (p := 0) (q := C - 1) (by omega) (by omega)
  have i1 := hvL_bd (T := T) (W := C) 9 0 ((0 + (R - 1)) / 2 - 1) 0 (lsI T ((0 + (R - 1)) / 2) 0 (C - 1)) (by omega) hb.1 (by omega) (by omega)
  have i2 := hvL_bd (T := T) (W := C) 9 ((0 + (R - 1)) / 2 + 1) (R - 1) (lsI T ((0 + (R - 1)) / 2) 0 (C - 1)) (C - 1) (by omega) hb.2 (by omega) (by omega)
  simp only [hvL] at i1 i2 ⊢
  rw [if_neg (by omega)]
  omega
def shF (x : St) : UInt64 := if Kp x.1 x.2.1 (nT x) then dvK (LW (nT x) x.1 x.2.1 1) (x.2.1 * x.1) else FP.dconst0
theorem lkW_y {σ : Sg} {w : Int} (hT : nT (stC σ 1) = σ 2) (h : w = 0 ∨ Kp (σ 1 0) (σ 1 1) (σ 2)) : lkW (stC σ 1) w = LW (σ 2) (σ 1 0) (σ 1 1) w := by unfold lkW; rw [hT]; exact if_pos h
theorem lkW_n {σ : Sg} {w : Int} (hT : nT (stC σ 1) = σ 2) (h : ¬ (w = 0 ∨ Kp (σ 1 0) (σ 1 1) (σ 2))) : lkW (stC σ 1) w = -1 := by unfold lkW; rw [hT]; exact if_neg h
theorem plW_y {σ : Sg} {w r : Int} (hT : nT (stC σ 1) = σ 2) (h : w = 0 ∨ Kp (σ 1 0) (σ 1 1) (σ 2)) : plW (stC σ 1) w r = PW (σ 2) (σ 1 0) (σ 1 1) w r := by unfold plW; rw [hT]; exact if_pos h
theorem plW_n {σ : Sg} {w r : Int} (hT : nT (stC σ 1) = σ 2) (h : ¬ (w = 0 ∨ Kp (σ 1 0) (σ 1 1) (σ 2))) : plW (stC σ 1) w r = -1 := by unfold plW; rw [hT]; exact if_neg h
theorem shF_y {σ : Sg} (hT : nT (stC σ 1) = σ 2) (h : Kp (σ 1 0) (σ 1 1) (σ 2)) : shF (stC σ 1) = dvK (LW (σ 2) (σ 1 0) (σ 1 1) 1) (σ 1 1 * σ 1 0) := by unfold shF; rw [hT]; exact if_pos h
theorem shF_n {σ : Sg} (hT : nT (stC σ 1) = σ 2) (h : ¬ Kp (σ 1 0) (σ 1 1) (σ 2)) : shF (stC σ 1) = FP.dconst0 := by unfold shF; rw [hT]; exact if_neg h
theorem bOK_u {x : UInt64} {i : Nat} (h : bOK x i = true) : Op.cmpValue (FP.dcmp x FP.dconst0) .l = Int32.ofInt 1 ∧ Op.cmpValue (FP.dcmp x x) .l = Int32.ofInt 0 ∧ (∀ j : Nat, j < i → Op.cmpValue (FP.dcmp (bz x j) FP.dconst1) .g = Int32.ofInt (-1) ∧ vf_n64 (FP.dmul (bz x j) (4611686018427387904 : UInt64))) ∧
    (∃ z : Int, Op.cmpValue (FP.dcmp (bz x i) FP.dconst1) .g = Int32.ofInt z ∧ 0 ≤ z ∧ z ≤ 1) ∧ vf_n64 (FP.dsub (bz x i) FP.dconst1) ∧ vf_n64 (bfr x i) ∧ vf_n64 x ∧ Int64.ofInt ((1023 - (i : Int)) * 4503599627370496 + (FP.d2l (bfr x i)).toInt) = x.toInt64 := by
  unfold bOK at h
  simp only [Bool.and_eq_true, Bool.or_eq_true, beq_iff_eq, List.all_eq_true, List.mem_range] at h
  obtain ⟨⟨⟨⟨⟨⟨⟨h1, h2⟩, h3⟩, h4⟩, h5⟩, h6⟩, h7⟩, h8⟩ := h
  refine ⟨h1, h2, fun j hj => ⟨(h3 j hj).1, n64b_is (h3 j hj).2⟩, ?_, n64b_is h5, n64b_is h6, n64b_is h7, h8⟩
  rcases h4 with h | h
  · exact ⟨0, h, by omega, by omega⟩
  · exact ⟨1, h, by omega, by omega⟩
theorem b_fin {x y : UInt64} {i e : Int} {i0 : Nat} (hb : bOK x i0 = true) (hi : i = i0) (he : e = 1023 - i) (hy : y = bz x i.toNat) :
    Int64.ofInt (e * 4503599627370496 + (FP.d2l (FP.dmul (FP.dsub y FP.dconst1) (4841369599423283200 : UInt64))).toInt) = Int64.ofInt (dbv x) := by
  subst hi he hy
  have h := (bOK_u hb).2.2.2.2.2.2.2
  rw [show ((i0 : Int)).toNat = i0 by omega]
  unfold dbv
  rw [Int64.ofInt_toInt]
  exact h
/-- places and looks of a state by a way, as far as it is open -/
def DP (σ s : Sg) (v : Int) : Prop := s 7 v = lkW (stC σ 1) v ∧ ∀ r, 0 ≤ r → r < σ 1 0 → s 6 (10 * v + r) = plW (stC σ 1) v r
def AllP (σ s : Sg) : Prop := (∀ k, 0 ≤ k → k ≤ 3 → s 4 k = tlF (stC σ 1) k) ∧ ∀ v, 0 ≤ v → v ≤ 2 → DP σ s v
theorem all_sk {σ s t : Sg} {w : Int} (hci : CI σ) (hw : 0 ≤ w ∧ w ≤ 2) (hq : Qs σ s) (hk : SeekP s t w) (hop : w = 0 ∨ Kp (σ 1 0) (σ 1 1) (σ 2)) (hd : ∀ v, 0 ≤ v → v < w → DP σ s v) : ∀ v, 0 ≤ v → v < w + 1 → DP σ t v := by
  have hT : nT (stC σ 1) = σ 2 := hci.T
  have hR := hci.us.1
  obtain ⟨k1, k2, k3, k4, k5, k6⟩ := hk
  rw [hq.1 1 (by decide), hq.1 2 (by decide)] at k3
  intro v h0 h1
  by_cases e : v = w
  · subst e
    refine ⟨?_, fun r a b => ?_⟩
    · rw [k3]; rw [lkW_y hT hop]
    · rw [k5 r a (by rw [hq.1 1 (by decide)]; exact b), hq.1 1 (by decide), hq.1 2 (by decide)]; rw [plW_y hT hop]
  · have h2 := hd v h0 (by omega)
    exact ⟨by rw [k4 v e]; exact h2.1, fun r a b => by rw [k6 _ (by omega)]; exact h2.2 r a b⟩
theorem all_tn {σ s : Sg} {w : Int} (hci : CI σ) (hw : 0 ≤ w ∧ w ≤ 2) (hop : ¬ (w = 0 ∨ Kp (σ 1 0) (σ 1 1) (σ 2))) (hd : ∀ v, 0 ≤ v → v < w → DP σ s v) : ∀ v, 0 ≤ v → v < w + 1 → DP σ (up (ov s 6 (10 * w) (10 * w + 10) (fun _ => -1)) 7 w (-1)) v := by
  have hT : nT (stC σ 1) = σ 2 := hci.T
  have hR := hci.us.1
  intro v h0 h1
  by_cases e : v = w
  · subst e
    refine ⟨?_, fun r a b => ?_⟩
    · rw [up_eq]; rw [lkW_n hT hop]
    · rw [up_ne (by decide), ov_at, if_pos (by omega)]; rw [plW_n hT hop]
  · have h2 := hd v h0 (by omega)
    refine ⟨by rw [up_nj e, ov_ne (by decide)]; exact h2.1, fun r a b => ?_⟩
    rw [up_ne (by decide), ov_at, if_neg (by omega)]
    exact h2.2 r a b
def hpF (x : St) (R C h : Int) : Int := mxG (tlF x) (31 * mxG (lkW x) (mxG (fun k => plW x (k % 3) (k / 3)) h (3 * R).toNat) 3 + bm ((R + C) * hvB R)) 4
def cuF (w : Int → Int) (n p h : Int) : Int := mxG (fun c => ctF w p n (p - c - 1).toNat) (31 * (31 * h + bm (dpC w p.toNat n).1) + bm (dpC w p.toNat n).1) (p - 1).toNat
def cuA (w : Int → Int) (n h : Int) : Nat → Int
  | 0 => h
  | p + 1 => cuF w n ((p : Int) + 1) (cuA w n h p)
theorem cuA_s {w : Int → Int} {n h p x : Int} (hp : 1 ≤ p) (hx : x = cuA w n h (p - 1).toNat) : cuF w n p x = cuA w n h p.toNat := by
  subst hx
  obtain ⟨k, rfl⟩ : ∃ k : Nat, p = (k : Int) + 1 := ⟨(p - 1).toNat, by omega⟩
  rw [show ((k : Int) + 1 - 1).toNat = k by omega, show ((k : Int) + 1).toNat = k + 1 by omega]
  rfl
def hwF (w : Int → Int) (n h : Int) : Int := 31 * cuA w n (mxG w h n.toNat) n.toNat + bm (fwF (fun q => (dpC w q.toNat n).1) 1000 n.toNat)
theorem cuF_c {f g : Int → Int} {n p h : Int} (e : ∀ r : Int, 0 ≤ r → r < n → f r = g r) (hw : ∀ i : Int, 0 ≤ i → i < n → 1 ≤ g i ∧ g i ≤ 99) (hn : n ≤ 10) (hp : 1 ≤ p ∧ p ≤ n) : cuF f n p h = cuF g n p h := by
  unfold cuF
  rw [dpC_c e p.toNat n (by omega) (by omega)]
  apply mxG_c
  intro c a b
  exact (ctF_c e hw hn hp.2 (by omega) (p - c - 1).toNat (by omega)).1
theorem cuA_c {f g : Int → Int} {n h : Int} (e : ∀ r : Int, 0 ≤ r → r < n → f r = g r) (hw : ∀ i : Int, 0 ≤ i → i < n → 1 ≤ g i ∧ g i ≤ 99) (hn : n ≤ 10) : ∀ k : Nat, (k : Int) ≤ n → cuA f n h k = cuA g n h k
  | 0, _ => rfl
  | k + 1, hk => by
    simp only [cuA]
    rw [cuA_c e hw hn k (by omega), cuF_c e hw hn (by omega)]
theorem hwF_c {f g : Int → Int} {n h : Int} (e : ∀ r : Int, 0 ≤ r → r < n → f r = g r) (hw : ∀ i : Int, 0 ≤ i → i < n → 1 ≤ g i ∧ g i ≤ 99) (hn : 0 ≤ n ∧ n ≤ 10) : hwF f n h = hwF g n h := by
  unfold hwF
  rw [mxG_c n.toNat (fun i a b => e i a (by omega)), cuA_c e hw hn.2 n.toNat (by omega), fwF_rs e]
def flO (o : Option St) : Int := match o with
  | none => 0
  | some _ => 1

set_option maxHeartbeats 1000000 in
set_option maxRecDepth 100000 in
theorem tX7_seekByAllWays (G : GT) (σ : Sg)  (hci : CI σ) : Ct G mX7_seekByAllWays 16 0 0 false SH SH [Rf G 0] σ (fun rv sv => none = rv ∧ (Qs σ sv ∧ AllP σ sv)) := by
  obtain ⟨P, hP⟩ : ∃ P : Option Value → Sg → Prop, P = (fun rv sv => none = rv ∧ (Qs σ sv ∧ AllP σ sv)) := ⟨_, rfl⟩
  rw [← hP]
  refine ct_of (lv := [(0, Rf G 0)]) (by decide +kernel) (Nat.le_of_ble_eq_true rfl) rfl ?_
  have hci0 := hci.us
  have hR := hci0.1
  have hwb := wcnt_bd (C := σ 1 1) (T := σ 2) (100 * (σ 1 0 - 1)).toNat
  refine r_aload_n dX7_seekByAllWays_0 rfl rfl ?_
  refine r_getR (b := 4) dX7_seekByAllWays_1 sh0 rfl (ci := 7) (j := 1) rfl (Nat.le_of_ble_eq_true rfl) ixX7 q134 rfl ?_
  refine r_callV (tX3_examine G σ  (hci.us.1) (hci.us.2.1) (hci.us.2.2.2.1)) dX7_seekByAllWays_4 svX3_examine q159 sh4 (ci := 3) rfl rfl rfl ⟨Nat.le_of_ble_eq_true rfl, Nat.le_of_ble_eq_true rfl⟩ (Nat.le_of_ble_eq_true rfl) ⟨Nat.le_of_ble_eq_true rfl, Nat.le_of_ble_eq_true rfl⟩ ?_
  rintro _ _ ⟨rfl, rfl⟩
  refine r_iconst dX7_seekByAllWays_7 ?_
  refine r_istore_n (lv' := [(0, Rf G 0), (1, I 0)]) dX7_seekByAllWays_8 rfl (Nat.le_of_ble_eq_true rfl) rfl ?_
  have L9 : ∀ (mm : Nat) (w : Int) (s : Sg), (3 - w).toNat = mm → (hw : 0 ≤ w ∧ w ≤ 3) → (hq : Qs σ s) → (h4 : s 4 = exs σ (100 * (σ 1 0 - 1)) 4) → (hd : ∀ v, 0 ≤ v → v < w → DP σ s v) → Rn G mX7_seekByAllWays (rmD 16 0 0) E0 (Zn G false SH P 0 0) false SH 0 0 9 [(0, Rf G 0), (1, I w)] [] s := by
    intro mm
    induction mm using Nat.strongRecOn with
    | _ mm ih9 =>
    intro w s hm9 hw hq h4 hd
    refine r_iload_n dX7_seekByAllWays_9 rfl rfl ?_
    refine r_iconst dX7_seekByAllWays_10 ?_
    refine r_icmp_ge (tgt := 53) dX7_seekByAllWays_11 (by decide) (by omega) (fun hb1 => ?_) (fun hb1 => ?_)
    · skip
      exact r_vret dX7_seekByAllWays_53 rfl (by rw [hP]; exact ⟨rfl, hq, fun k a b => by rw [h4]; exact exs_tl hci ⟨a, b⟩, fun v a b => hd v a (by omega)⟩)
    · skip
      refine r_iload_n dX7_seekByAllWays_14 rfl rfl ?_
      refine r_if_eq (tgt := 28) dX7_seekByAllWays_15 (by decide) (by omega) (fun hb2 => ?_) (fun hb2 => ?_)
      · skip
        refine r_aload_n dX7_seekByAllWays_28 rfl rfl ?_
        refine r_getR (b := 5) dX7_seekByAllWays_29 sh0 rfl (ci := 7) (j := 2) rfl (Nat.le_of_ble_eq_true rfl) ixX7 q135 rfl ?_
        refine r_iload_n dX7_seekByAllWays_32 rfl rfl ?_
        refine r_callV (tX1_seek G s w (by omega) ((hq.ci hci).us.1) ((hq.ci hci).us.2.1) ((hq.ci hci).us.2.2.2.1) ((hq.ci hci).us.2.2.2.2.2.1)) dX7_seekByAllWays_33 svX1_seek q233 sh5 (ci := 1) rfl rfl rfl ⟨Nat.le_of_ble_eq_true rfl, Nat.le_of_ble_eq_true rfl⟩ (Nat.le_of_ble_eq_true rfl) ⟨Nat.le_of_ble_eq_true rfl, Nat.le_of_ble_eq_true rfl⟩ ?_
        rintro _ t ⟨rfl, hk⟩
        refine r_goto (tgt := 47) dX7_seekByAllWays_36 (by decide) ?_
        refine r_iinc (lv' := [(0, Rf G 0), (1, I (w + 1))]) dX7_seekByAllWays_47 (Nat.le_of_ble_eq_true rfl) rfl rfl ?_
        refine r_goto (tgt := 9) dX7_seekByAllWays_50 (by decide) ?_
        exact ih9 _ (by omega) (w + 1) _ rfl (by omega) (by first | exact hq.tr (Qs.sk hk) | exact hq.tr Qs.tn) (by first | exact (hk.1 4 (by decide) (by decide) (by decide) (by decide) (by decide)).trans h4 | (rw [up_ne (by decide), ov_ne (by decide)]; exact h4)) (by first | exact all_sk hci (by omega) hq hk (by first | exact Or.inl (by omega) | exact Or.inr (Kp_0.2 (by omega))) hd | exact all_tn hci (by omega) (fun q => by rcases q with q | q; exact absurd q (by omega); exact absurd (Kp_0.1 q) (by omega)) hd)
      · skip
        refine r_aload_n dX7_seekByAllWays_18 rfl rfl ?_
        refine r_getR (b := 4) dX7_seekByAllWays_19 sh0 rfl (ci := 7) (j := 1) rfl (Nat.le_of_ble_eq_true rfl) ixX7 q134 rfl ?_
        refine r_getI (z := 3) dX7_seekByAllWays_22 sh4 rfl (ci := 3) (j := 3) rfl (Nat.le_of_ble_eq_true rfl) rfl ixX3 q68 rfl (hv := ((congrFun h4 3).trans exs_3)) ?_
        refine r_if_ne (tgt := 39) dX7_seekByAllWays_25 (by decide) (by omega) (fun hb3 => ?_) (fun hb3 => ?_)
        · skip
          refine r_aload_n dX7_seekByAllWays_39 rfl rfl ?_
          refine r_getR (b := 5) dX7_seekByAllWays_40 sh0 rfl (ci := 7) (j := 2) rfl (Nat.le_of_ble_eq_true rfl) ixX7 q135 rfl ?_
          refine r_iload_n dX7_seekByAllWays_43 rfl rfl ?_
          refine r_callV (tX1_tellNothing G s w (by omega)) dX7_seekByAllWays_44 svX1_tellNothing q320 sh5 (ci := 1) rfl rfl rfl ⟨Nat.le_of_ble_eq_true rfl, Nat.le_of_ble_eq_true rfl⟩ (Nat.le_of_ble_eq_true rfl) ⟨Nat.le_of_ble_eq_true rfl, Nat.le_of_ble_eq_true rfl⟩ ?_
          rintro _ _ ⟨rfl, rfl⟩
          refine r_iinc (lv' := [(0, Rf G 0), (1, I (w + 1))]) dX7_seekByAllWays_47 (Nat.le_of_ble_eq_true rfl) rfl rfl ?_
          refine r_goto (tgt := 9) dX7_seekByAllWays_50 (by decide) ?_
          exact ih9 _ (by omega) (w + 1) _ rfl (by omega) (by first | exact hq.tr (Qs.sk hk) | exact hq.tr Qs.tn) (by first | exact (hk.1 4 (by decide) (by decide) (by decide) (by decide) (by decide)).trans h4 | (rw [up_ne (by decide), ov_ne (by decide)]; exact h4)) (by first | exact all_sk hci (by omega) hq hk (by first | exact Or.inl (by omega) | exact Or.inr (Kp_0.2 (by omega))) hd | exact all_tn hci (by omega) (fun q => by rcases q with q | q; exact absurd q (by omega); exact absurd (Kp_0.1 q) (by omega)) hd)
        · skip
          refine r_aload_n dX7_seekByAllWays_28 rfl rfl ?_
          refine r_getR (b := 5) dX7_seekByAllWays_29 sh0 rfl (ci := 7) (j := 2) rfl (Nat.le_of_ble_eq_true rfl) ixX7 q135 rfl ?_
          refine r_iload_n dX7_seekByAllWays_32 rfl rfl ?_
          refine r_callV (tX1_seek G s w (by omega) ((hq.ci hci).us.1) ((hq.ci hci).us.2.1) ((hq.ci hci).us.2.2.2.1) ((hq.ci hci).us.2.2.2.2.2.1)) dX7_seekByAllWays_33 svX1_seek q233 sh5 (ci := 1) rfl rfl rfl ⟨Nat.le_of_ble_eq_true rfl, Nat.le_of_ble_eq_true rfl⟩ (Nat.le_of_ble_eq_true rfl) ⟨Nat.le_of_ble_eq_true rfl, Nat.le_of_ble_eq_true rfl⟩ ?_
          rintro _ t ⟨rfl, hk⟩
          refine r_goto (tgt := 47) dX7_seekByAllWays_36 (by decide) ?_
          refine r_iinc (lv' := [(0, Rf G 0), (1, I (w + 1))]) dX7_seekByAllWays_47 (Nat.le_of_ble_eq_true rfl) rfl rfl ?_
          refine r_goto (tgt := 9) dX7_seekByAllWays_50 (by decide) ?_
          exact ih9 _ (by omega) (w + 1) _ rfl (by omega) (by first | exact hq.tr (Qs.sk hk) | exact hq.tr Qs.tn) (by first | exact (hk.1 4 (by decide) (by decide) (by decide) (by decide) (by decide)).trans h4 | (rw [up_ne (by decide), ov_ne (by decide)]; exact h4)) (by first | exact all_sk hci (by omega) hq hk (by first | exact Or.inl (by omega) | exact Or.inr (Kp_0.2 (by omega))) hd | exact all_tn hci (by omega) (fun q => by rcases q with q | q; exact absurd q (by omega); exact absurd (Kp_0.1 q) (by omega)) hd)
  exact L9 _ 0 _ rfl (by omega) (Qs.ex) (rfl) (fun v a b => by omega)
set_option maxHeartbeats 1000000 in
set_option maxRecDepth 100000 in
theorem tX7_mixedPlaces (G : GT) (σ : Sg) (x : St) (h0 : Int) (hR : 1 ≤ σ 1 0 ∧ σ 1 0 ≤ 10) (hA : ∀ v, 0 ≤ v → v ≤ 2 → σ 7 v = lkW x v ∧ ∀ r, 0 ≤ r → r < σ 1 0 → σ 6 (10 * v + r) = plW x v r) (h4 : ∀ k, 0 ≤ k → k ≤ 3 → σ 4 k = tlF x k) : Ct G mX7_mixedPlaces 3 0 0 false SH SH [Rf G 0, Lg h0] σ (fun rv sv => some (Lg (hpF x (σ 1 0) (σ 1 1) h0)) = rv ∧ σ = sv) := by
  obtain ⟨P, hP⟩ : ∃ P : Option Value → Sg → Prop, P = (fun rv sv => some (Lg (hpF x (σ 1 0) (σ 1 1) h0)) = rv ∧ σ = sv) := ⟨_, rfl⟩
  rw [← hP]
  refine ct_of (lv := [(0, Rf G 0), (1, Lg h0)]) (by decide +kernel) (Nat.le_of_ble_eq_true rfl) rfl ?_
  refine r_lload_n dX7_mixedPlaces_0 rfl rfl ?_
  refine r_lstore_n (lv' := [(0, Rf G 0), (1, Lg h0), (3, Lg h0)]) dX7_mixedPlaces_1 rfl (Nat.le_of_ble_eq_true rfl) rfl ?_
  refine r_iconst dX7_mixedPlaces_2 ?_
  refine r_istore (lv' := [(0, Rf G 0), (1, Lg h0), (3, Lg h0), (5, I 0)]) dX7_mixedPlaces_3 (Nat.le_of_ble_eq_true rfl) rfl ?_
  have L5 : ∀ (mm : Nat) (r y : Int), (σ 1 0 - r).toNat = mm → (hr : 0 ≤ r ∧ r ≤ σ 1 0) → (hy : y = mxG (fun k => plW x (k % 3) (k / 3)) h0 (3 * r).toNat) → Rn G mX7_mixedPlaces (rmD 3 0 0) E0 (Zn G false SH P 0 0) false SH 0 0 5 [(0, Rf G 0), (1, Lg h0), (3, Lg y), (5, I r)] [] σ := by
    intro mm
    induction mm using Nat.strongRecOn with
    | _ mm ih5 =>
    intro r y hm5 hr hy
    refine r_iload dX7_mixedPlaces_5 rfl ?_
    refine r_aload_n dX7_mixedPlaces_7 rfl rfl ?_
    refine r_getR (b := 1) dX7_mixedPlaces_8 sh0 rfl (ci := 7) (j := 0) rfl (Nat.le_of_ble_eq_true rfl) ixX7 q133 rfl ?_
    refine r_getI (z := 0) dX7_mixedPlaces_11 sh1 rfl (ci := 5) (j := 0) rfl (Nat.le_of_ble_eq_true rfl) rfl ixX5 q37 rfl (hv := rfl) ?_
    refine r_icmp_ge (tgt := 55) dX7_mixedPlaces_14 (by decide) (by omega) (fun hb1 => ?_) (fun hb1 => ?_)
    · skip
      refine r_iconst dX7_mixedPlaces_55 ?_
      refine r_istore (lv' := [(0, Rf G 0), (1, Lg h0), (3, Lg y), (5, I 0)]) dX7_mixedPlaces_56 (Nat.le_of_ble_eq_true rfl) rfl ?_
      have L58 : ∀ (mm : Nat) (w z : Int), (3 - w).toNat = mm → (hw : 0 ≤ w ∧ w ≤ 3) → (hz : z = mxG (lkW x) (mxG (fun k => plW x (k % 3) (k / 3)) h0 (3 * σ 1 0).toNat) w.toNat) → Rn G mX7_mixedPlaces (rmD 3 0 0) E0 (Zn G false SH P 0 0) false SH 0 0 58 [(0, Rf G 0), (1, Lg h0), (3, Lg z), (5, I w)] [] σ := by
        intro mm
        induction mm using Nat.strongRecOn with
        | _ mm ih58 =>
        intro w z hm58 hw hz
        refine r_iload dX7_mixedPlaces_58 rfl ?_
        refine r_iconst dX7_mixedPlaces_60 ?_
        refine r_icmp_ge (tgt := 85) dX7_mixedPlaces_61 (by decide) (by omega) (fun hb2 => ?_) (fun hb2 => ?_)
        · skip
          refine r_lload_n dX7_mixedPlaces_85 rfl rfl ?_
          refine r_aload_n dX7_mixedPlaces_86 rfl rfl ?_
          refine r_callV (tX7_bound G σ  (by omega)) dX7_mixedPlaces_87 svX7_bound q329 sh0 (ci := 7) rfl rfl rfl ⟨Nat.le_of_ble_eq_true rfl, Nat.le_of_ble_eq_true rfl⟩ (Nat.le_of_ble_eq_true rfl) ⟨Nat.le_of_ble_eq_true rfl, Nat.le_of_ble_eq_true rfl⟩ ?_
          rintro _ _ ⟨rfl, rfl⟩
          refine r_i2lb dX7_mixedPlaces_90 ?_
          refine r_callS (tX7_mixed G σ z (bm ((σ 1 0 + σ 1 1) * hvB (σ 1 0)))) dX7_mixedPlaces_91 svX7_mixed q310 rfl ⟨Nat.le_of_ble_eq_true rfl, Nat.le_of_ble_eq_true rfl⟩ (Nat.le_of_ble_eq_true rfl) ⟨Nat.le_of_ble_eq_true rfl, Nat.le_of_ble_eq_true rfl⟩ ?_
          rintro _ _ ⟨rfl, rfl⟩
          refine r_lstore_n (lv' := [(0, Rf G 0), (1, Lg h0), (3, Lg (31 * z + (bm ((σ 1 0 + σ 1 1) * hvB (σ 1 0))))), (5, I w)]) dX7_mixedPlaces_94 rfl (Nat.le_of_ble_eq_true rfl) rfl ?_
          refine r_iconst dX7_mixedPlaces_95 ?_
          refine r_istore (lv' := [(0, Rf G 0), (1, Lg h0), (3, Lg (31 * z + (bm ((σ 1 0 + σ 1 1) * hvB (σ 1 0))))), (5, I 0)]) dX7_mixedPlaces_96 (Nat.le_of_ble_eq_true rfl) rfl ?_
          have L98 : ∀ (mm : Nat) (k u : Int), (4 - k).toNat = mm → (hk : 0 ≤ k ∧ k ≤ 4) → (hu : u = mxG (tlF x) (31 * mxG (lkW x) (mxG (fun k => plW x (k % 3) (k / 3)) h0 (3 * σ 1 0).toNat) 3 + bm ((σ 1 0 + σ 1 1) * hvB (σ 1 0))) k.toNat) → Rn G mX7_mixedPlaces (rmD 3 0 0) E0 (Zn G false SH P 0 0) false SH 0 0 98 [(0, Rf G 0), (1, Lg h0), (3, Lg u), (5, I k)] [] σ := by
            intro mm
            induction mm using Nat.strongRecOn with
            | _ mm ih98 =>
            intro k u hm98 hk hu
            refine r_iload dX7_mixedPlaces_98 rfl ?_
            refine r_iconst dX7_mixedPlaces_100 ?_
            refine r_icmp_gt (tgt := 125) dX7_mixedPlaces_101 (by decide) (by omega) (fun hb3 => ?_) (fun hb3 => ?_)
            · skip
              refine r_lload_n dX7_mixedPlaces_125 rfl rfl ?_
              exact r_lret dX7_mixedPlaces_126 rfl (by rw [hP]; exact ⟨by rw [hu, show k = 4 by omega]; rfl, rfl⟩)
            · skip
              refine r_lload_n dX7_mixedPlaces_104 rfl rfl ?_
              refine r_aload_n dX7_mixedPlaces_105 rfl rfl ?_
              refine r_getR (b := 4) dX7_mixedPlaces_106 sh0 rfl (ci := 7) (j := 1) rfl (Nat.le_of_ble_eq_true rfl) ixX7 q134 rfl ?_
              refine r_iload dX7_mixedPlaces_109 rfl ?_
              refine r_callV (tX3_told G σ k (by omega)) dX7_mixedPlaces_111 svX3_told q330 sh4 (ci := 3) rfl rfl rfl ⟨Nat.le_of_ble_eq_true rfl, Nat.le_of_ble_eq_true rfl⟩ (Nat.le_of_ble_eq_true rfl) ⟨Nat.le_of_ble_eq_true rfl, Nat.le_of_ble_eq_true rfl⟩ ?_
              rintro _ _ ⟨rfl, rfl⟩
              refine r_i2lb dX7_mixedPlaces_114 ?_
              refine r_callS (tX7_mixed G σ u (bm (σ 4 k))) dX7_mixedPlaces_115 svX7_mixed q310 rfl ⟨Nat.le_of_ble_eq_true rfl, Nat.le_of_ble_eq_true rfl⟩ (Nat.le_of_ble_eq_true rfl) ⟨Nat.le_of_ble_eq_true rfl, Nat.le_of_ble_eq_true rfl⟩ ?_
              rintro _ _ ⟨rfl, rfl⟩
              refine r_lstore_n (lv' := [(0, Rf G 0), (1, Lg h0), (3, Lg (31 * u + (bm (σ 4 k)))), (5, I k)]) dX7_mixedPlaces_118 rfl (Nat.le_of_ble_eq_true rfl) rfl ?_
              refine r_iinc (lv' := [(0, Rf G 0), (1, Lg h0), (3, Lg (31 * u + (bm (σ 4 k)))), (5, I (k + 1))]) dX7_mixedPlaces_119 (Nat.le_of_ble_eq_true rfl) rfl rfl ?_
              refine r_goto (tgt := 98) dX7_mixedPlaces_122 (by decide) ?_
              exact ih98 _ (by omega) (k + 1) _ rfl (by omega) (by rw [h4 k (by omega) (by omega)]; exact mxG_s (by omega) hu)
          exact L98 _ 0 _ rfl (by omega) (by rw [hz, show w = 3 by omega]; rfl)
        · skip
          refine r_lload_n dX7_mixedPlaces_64 rfl rfl ?_
          refine r_aload_n dX7_mixedPlaces_65 rfl rfl ?_
          refine r_getR (b := 5) dX7_mixedPlaces_66 sh0 rfl (ci := 7) (j := 2) rfl (Nat.le_of_ble_eq_true rfl) ixX7 q135 rfl ?_
          refine r_iload dX7_mixedPlaces_69 rfl ?_
          refine r_callV (tX1_looksBy G σ w (by omega)) dX7_mixedPlaces_71 svX1_looksBy q328 sh5 (ci := 1) rfl rfl rfl ⟨Nat.le_of_ble_eq_true rfl, Nat.le_of_ble_eq_true rfl⟩ (Nat.le_of_ble_eq_true rfl) ⟨Nat.le_of_ble_eq_true rfl, Nat.le_of_ble_eq_true rfl⟩ ?_
          rintro _ _ ⟨rfl, rfl⟩
          refine r_i2lb dX7_mixedPlaces_74 ?_
          refine r_callS (tX7_mixed G σ z (bm (σ 7 w))) dX7_mixedPlaces_75 svX7_mixed q310 rfl ⟨Nat.le_of_ble_eq_true rfl, Nat.le_of_ble_eq_true rfl⟩ (Nat.le_of_ble_eq_true rfl) ⟨Nat.le_of_ble_eq_true rfl, Nat.le_of_ble_eq_true rfl⟩ ?_
          rintro _ _ ⟨rfl, rfl⟩
          refine r_lstore_n (lv' := [(0, Rf G 0), (1, Lg h0), (3, Lg (31 * z + (bm (σ 7 w)))), (5, I w)]) dX7_mixedPlaces_78 rfl (Nat.le_of_ble_eq_true rfl) rfl ?_
          refine r_iinc (lv' := [(0, Rf G 0), (1, Lg h0), (3, Lg (31 * z + (bm (σ 7 w)))), (5, I (w + 1))]) dX7_mixedPlaces_79 (Nat.le_of_ble_eq_true rfl) rfl rfl ?_
          refine r_goto (tgt := 58) dX7_mixedPlaces_82 (by decide) ?_
          exact ih58 _ (by omega) (w + 1) _ rfl (by omega) (by rw [(hA w (by omega) (by omega)).1]; exact mxG_s (by omega) hz)
      exact L58 _ 0 _ rfl (by omega) (by rw [hy, show r = σ 1 0 by omega]; rfl)
    · skip
      refine r_iconst dX7_mixedPlaces_17 ?_
      refine r_istore (lv' := [(0, Rf G 0), (1, Lg h0), (3, Lg y), (5, I r), (6, I 0)]) dX7_mixedPlaces_18 (Nat.le_of_ble_eq_true rfl) rfl ?_
      have L20 : ∀ (mm : Nat) (w z : Int), (3 - w).toNat = mm → (hw : 0 ≤ w ∧ w ≤ 3) → (hz : z = mxG (fun k => plW x (k % 3) (k / 3)) h0 (3 * r + w).toNat) → Rn G mX7_mixedPlaces (rmD 3 0 0) E0 (Zn G false SH P 0 0) false SH 0 0 20 [(0, Rf G 0), (1, Lg h0), (3, Lg z), (5, I r), (6, I w)] [] σ := by
        intro mm
        induction mm using Nat.strongRecOn with
        | _ mm ih20 =>
        intro w z hm20 hw hz
        refine r_iload dX7_mixedPlaces_20 rfl ?_
        refine r_iconst dX7_mixedPlaces_22 ?_
        refine r_icmp_ge (tgt := 49) dX7_mixedPlaces_23 (by decide) (by omega) (fun hb4 => ?_) (fun hb4 => ?_)
        · skip
          refine r_iinc (lv' := [(0, Rf G 0), (1, Lg h0), (3, Lg z), (5, I (r + 1)), (6, I w)]) dX7_mixedPlaces_49 (Nat.le_of_ble_eq_true rfl) rfl rfl ?_
          refine r_goto (tgt := 5) dX7_mixedPlaces_52 (by decide) ?_
          refine r_sub [0, 1, 2, 3] rfl ?_
          exact ih5 _ (by omega) (r + 1) _ rfl (by omega) (by rw [hz]; congr 1; omega)
        · skip
          refine r_lload_n dX7_mixedPlaces_26 rfl rfl ?_
          refine r_aload_n dX7_mixedPlaces_27 rfl rfl ?_
          refine r_getR (b := 5) dX7_mixedPlaces_28 sh0 rfl (ci := 7) (j := 2) rfl (Nat.le_of_ble_eq_true rfl) ixX7 q135 rfl ?_
          refine r_iload dX7_mixedPlaces_31 rfl ?_
          refine r_iload dX7_mixedPlaces_33 rfl ?_
          refine r_callV (tX1_placeBy G σ w r (by omega)) dX7_mixedPlaces_35 svX1_placeBy q327 sh5 (ci := 1) rfl rfl rfl ⟨Nat.le_of_ble_eq_true rfl, Nat.le_of_ble_eq_true rfl⟩ (Nat.le_of_ble_eq_true rfl) ⟨Nat.le_of_ble_eq_true rfl, Nat.le_of_ble_eq_true rfl⟩ ?_
          rintro _ _ ⟨rfl, rfl⟩
          refine r_i2lb dX7_mixedPlaces_38 ?_
          refine r_callS (tX7_mixed G σ z (bm (σ 6 (10 * w + r)))) dX7_mixedPlaces_39 svX7_mixed q310 rfl ⟨Nat.le_of_ble_eq_true rfl, Nat.le_of_ble_eq_true rfl⟩ (Nat.le_of_ble_eq_true rfl) ⟨Nat.le_of_ble_eq_true rfl, Nat.le_of_ble_eq_true rfl⟩ ?_
          rintro _ _ ⟨rfl, rfl⟩
          refine r_lstore_n (lv' := [(0, Rf G 0), (1, Lg h0), (3, Lg (31 * z + (bm (σ 6 (10 * w + r))))), (5, I r), (6, I w)]) dX7_mixedPlaces_42 rfl (Nat.le_of_ble_eq_true rfl) rfl ?_
          refine r_iinc (lv' := [(0, Rf G 0), (1, Lg h0), (3, Lg (31 * z + (bm (σ 6 (10 * w + r))))), (5, I r), (6, I (w + 1))]) dX7_mixedPlaces_43 (Nat.le_of_ble_eq_true rfl) rfl rfl ?_
          refine r_goto (tgt := 20) dX7_mixedPlaces_46 (by decide) ?_
          have e9 := mxG_s (v := fun k => plW x (k % 3) (k / 3)) (i := 3 * r + w) (by omega) hz
          try simp only [] at e9
          rw [show (3 * r + w) % 3 = w by omega, show (3 * r + w) / 3 = r by omega, ← (hA w (by omega) (by omega)).2 r (by omega) (by omega)] at e9
          exact ih20 _ (by omega) (w + 1) _ rfl (by omega) (by rw [e9]; congr 2; omega)
      exact L20 _ 0 _ rfl (by omega) (by rw [hy, Int.add_zero])
  exact L5 _ 0 _ rfl (by omega) (rfl)
set_option maxHeartbeats 1000000 in
set_option maxRecDepth 100000 in
theorem tX7_mixedWeights (G : GT) (σ : Sg) (h0 : Int) (hci : CI σ) : Ct G mX7_mixedWeights 17 0 0 false SH SH [Rf G 0, Lg h0] σ (fun rv sv => some (Lg (hwF (σ 3) (σ 1 2) h0)) = rv ∧ Qs σ sv) := by
  obtain ⟨P, hP⟩ : ∃ P : Option Value → Sg → Prop, P = (fun rv sv => some (Lg (hwF (σ 3) (σ 1 2) h0)) = rv ∧ Qs σ sv) := ⟨_, rfl⟩
  rw [← hP]
  refine ct_of (lv := [(0, Rf G 0), (1, Lg h0)]) (by decide +kernel) (Nat.le_of_ble_eq_true rfl) rfl ?_
  have hci0 := hci.us
  obtain ⟨-, -, hn, -, hwt, -⟩ := hci0
  refine r_lload_n dX7_mixedWeights_0 rfl rfl ?_
  refine r_lstore_n (lv' := [(0, Rf G 0), (1, Lg h0), (3, Lg h0)]) dX7_mixedWeights_1 rfl (Nat.le_of_ble_eq_true rfl) rfl ?_
  refine r_iconst dX7_mixedWeights_2 ?_
  refine r_istore (lv' := [(0, Rf G 0), (1, Lg h0), (3, Lg h0), (5, I 0)]) dX7_mixedWeights_3 (Nat.le_of_ble_eq_true rfl) rfl ?_
  have L5 : ∀ (mm : Nat) (i y : Int), (σ 1 2 - i).toNat = mm → (hi : 0 ≤ i ∧ i ≤ σ 1 2) → (hy : y = mxG (σ 3) h0 i.toNat) → Rn G mX7_mixedWeights (rmD 17 0 0) E0 (Zn G false SH P 0 0) false SH 0 0 5 [(0, Rf G 0), (1, Lg h0), (3, Lg y), (5, I i)] [] σ := by
    intro mm
    induction mm using Nat.strongRecOn with
    | _ mm ih5 =>
    intro i y hm5 hi hy
    refine r_iload dX7_mixedWeights_5 rfl ?_
    refine r_aload_n dX7_mixedWeights_7 rfl rfl ?_
    refine r_getR (b := 1) dX7_mixedWeights_8 sh0 rfl (ci := 7) (j := 0) rfl (Nat.le_of_ble_eq_true rfl) ixX7 q133 rfl ?_
    refine r_getI (z := 2) dX7_mixedWeights_11 sh1 rfl (ci := 5) (j := 2) rfl (Nat.le_of_ble_eq_true rfl) rfl ixX5 q45 rfl (hv := rfl) ?_
    refine r_icmp_ge (tgt := 38) dX7_mixedWeights_14 (by decide) (by omega) (fun hb1 => ?_) (fun hb1 => ?_)
    · skip
      refine r_aload_n dX7_mixedWeights_38 rfl rfl ?_
      refine r_getR (b := 10) dX7_mixedWeights_39 sh0 rfl (ci := 7) (j := 3) rfl (Nat.le_of_ble_eq_true rfl) ixX7 q136 rfl ?_
      refine r_callV (tX0_planCuts G σ  (hci.us.2.2.1) (hci.us.2.2.2.2.1) (hci.us.2.2.2.2.2.2.1) (hci.us.2.2.2.2.2.2.2.1)) dX7_mixedWeights_42 svX0_planCuts q338 sh10 (ci := 0) rfl rfl rfl ⟨Nat.le_of_ble_eq_true rfl, Nat.le_of_ble_eq_true rfl⟩ (Nat.le_of_ble_eq_true rfl) ⟨Nat.le_of_ble_eq_true rfl, Nat.le_of_ble_eq_true rfl⟩ ?_
      rintro _ u ⟨rfl, hpl⟩
      refine r_aload_n dX7_mixedWeights_45 rfl rfl ?_
      refine r_getR (b := 10) dX7_mixedWeights_46 sh0 rfl (ci := 7) (j := 3) rfl (Nat.le_of_ble_eq_true rfl) ixX7 q136 rfl ?_
      refine r_callV (tX0_tryAllCuts G u  (((Qs.pl hpl).ci hci).us.2.2.1) (((Qs.pl hpl).ci hci).us.2.2.2.2.1)) dX7_mixedWeights_49 svX0_tryAllCuts q349 sh10 (ci := 0) rfl rfl rfl ⟨Nat.le_of_ble_eq_true rfl, Nat.le_of_ble_eq_true rfl⟩ (Nat.le_of_ble_eq_true rfl) ⟨Nat.le_of_ble_eq_true rfl, Nat.le_of_ble_eq_true rfl⟩ ?_
      rintro _ t ⟨rfl, hty⟩
      have e1 : t 1 = σ 1 := by rw [hty.1 1 (by decide), hpl.1 1 (by decide) (by decide) (by decide)]
      have e3 : t 3 = σ 3 := by rw [hty.1 3 (by decide), hpl.1 3 (by decide) (by decide) (by decide)]
      have u1 : u 1 = σ 1 := hpl.1 1 (by decide) (by decide) (by decide)
      have u3 : u 3 = σ 3 := hpl.1 3 (by decide) (by decide) (by decide)
      have h11 : ∀ q m, 1 ≤ q → q ≤ m → m ≤ σ 1 2 → t 11 (11 * q + m) = (dpC (σ 3) q.toNat m).1 := fun q m a b d => by rw [hty.1 11 (by decide)]; exact (hpl.2.2.2 q m a b d).1
      have h12 : ∀ q m, 1 ≤ q → q ≤ m → m ≤ σ 1 2 → t 12 (11 * q + m) = (dpC (σ 3) q.toNat m).2 := fun q m a b d => by rw [hty.1 12 (by decide)]; exact (hpl.2.2.2 q m a b d).2
      have h14 : ∀ q, 1 ≤ q → q ≤ σ 1 2 → t 14 q = (dpC (σ 3) q.toNat (σ 1 2)).1 := fun q a b => by have := hty.2 q a (by rw [u1]; exact b); rw [this, u1, u3]
      refine r_iconst dX7_mixedWeights_52 ?_
      refine r_istore (lv' := [(0, Rf G 0), (1, Lg h0), (3, Lg y), (5, I 1)]) dX7_mixedWeights_53 (Nat.le_of_ble_eq_true rfl) rfl ?_
      have L55 : ∀ (mm : Nat) (p z : Int), (σ 1 2 + 1 - p).toNat = mm → (hp : 1 ≤ p ∧ p ≤ σ 1 2 + 1) → (hz : z = cuA (σ 3) (σ 1 2) (mxG (σ 3) h0 (σ 1 2).toNat) (p - 1).toNat) → Rn G mX7_mixedWeights (rmD 17 0 0) E0 (Zn G false SH P 0 0) false SH 0 0 55 [(0, Rf G 0), (1, Lg h0), (3, Lg z), (5, I p)] [] t := by
        intro mm
        induction mm using Nat.strongRecOn with
        | _ mm ih55 =>
        intro p z hm55 hp hz
        refine r_iload dX7_mixedWeights_55 rfl ?_
        refine r_aload_n dX7_mixedWeights_57 rfl rfl ?_
        refine r_getR (b := 1) dX7_mixedWeights_58 sh0 rfl (ci := 7) (j := 0) rfl (Nat.le_of_ble_eq_true rfl) ixX7 q133 rfl ?_
        refine r_getI (z := 2) dX7_mixedWeights_61 sh1 rfl (ci := 5) (j := 2) rfl (Nat.le_of_ble_eq_true rfl) rfl ixX5 q45 rfl (hv := (congrFun (hty.1 1 (by decide)) 2).trans (congrFun (hpl.1 1 (by decide) (by decide) (by decide)) 2)) ?_
        refine r_icmp_gt (tgt := 138) dX7_mixedWeights_64 (by decide) (by omega) (fun hb2 => ?_) (fun hb2 => ?_)
        · skip
          refine r_lload_n dX7_mixedWeights_138 rfl rfl ?_
          refine r_aload_n dX7_mixedWeights_139 rfl rfl ?_
          refine r_getR (b := 10) dX7_mixedWeights_140 sh0 rfl (ci := 7) (j := 3) rfl (Nat.le_of_ble_eq_true rfl) ixX7 q136 rfl ?_
          refine r_sipush dX7_mixedWeights_143 rfl ?_
          refine r_callV (tX0_fewestPartsFor G t 1000 (by rw [e1]; exact hn) (by rw [e1, e3]; exact hwt) (by omega) (by rw [e1, e3]; exact fun q a b => h11 q _ a b (Int.le_refl _))) dX7_mixedWeights_146 svX0_fewestPartsFor q372 sh10 (ci := 0) rfl rfl rfl ⟨Nat.le_of_ble_eq_true rfl, Nat.le_of_ble_eq_true rfl⟩ (Nat.le_of_ble_eq_true rfl) ⟨Nat.le_of_ble_eq_true rfl, Nat.le_of_ble_eq_true rfl⟩ ?_
          rintro _ _ ⟨rfl, rfl⟩
          rw [show t 1 2 = σ 1 2 from (congrFun (hty.1 1 (by decide)) 2).trans (congrFun (hpl.1 1 (by decide) (by decide) (by decide)) 2)]
          try rw [e3]
          refine r_i2lb dX7_mixedWeights_149 ?_
          refine r_callS (tX7_mixed G t z (bm (fwF (fun q => (dpC (σ 3) q.toNat (σ 1 2)).1) 1000 (σ 1 2).toNat))) dX7_mixedWeights_150 svX7_mixed q310 rfl ⟨Nat.le_of_ble_eq_true rfl, Nat.le_of_ble_eq_true rfl⟩ (Nat.le_of_ble_eq_true rfl) ⟨Nat.le_of_ble_eq_true rfl, Nat.le_of_ble_eq_true rfl⟩ ?_
          rintro _ _ ⟨rfl, rfl⟩
          exact r_lret dX7_mixedWeights_153 rfl (by rw [hP]; exact ⟨by rw [hz, show p - 1 = σ 1 2 by omega]; rfl, (((((Qs.refl σ)).tr (Qs.pl hpl))).tr (Qs.ty hty))⟩)
        · skip
          refine r_lload_n dX7_mixedWeights_67 rfl rfl ?_
          refine r_aload_n dX7_mixedWeights_68 rfl rfl ?_
          refine r_getR (b := 10) dX7_mixedWeights_69 sh0 rfl (ci := 7) (j := 3) rfl (Nat.le_of_ble_eq_true rfl) ixX7 q136 rfl ?_
          refine r_iload dX7_mixedWeights_72 rfl ?_
          refine r_callV (tX0_plannedCost G t p (by rw [e1]; omega)) dX7_mixedWeights_74 svX0_plannedCost q363 sh10 (ci := 0) rfl rfl rfl ⟨Nat.le_of_ble_eq_true rfl, Nat.le_of_ble_eq_true rfl⟩ (Nat.le_of_ble_eq_true rfl) ⟨Nat.le_of_ble_eq_true rfl, Nat.le_of_ble_eq_true rfl⟩ ?_
          rintro _ _ ⟨rfl, rfl⟩
          rw [show t 1 2 = σ 1 2 from (congrFun (hty.1 1 (by decide)) 2).trans (congrFun (hpl.1 1 (by decide) (by decide) (by decide)) 2)]
          rw [show t 11 (11 * p + (σ 1 2)) = u 11 (11 * p + (σ 1 2)) from congrFun (hty.1 11 (by decide)) (11 * p + (σ 1 2))]
          rw [← hty.1 11 (by decide), h11 _ _ hp.1 (by omega) (Int.le_refl _)]
          refine r_i2lb dX7_mixedWeights_77 ?_
          refine r_callS (tX7_mixed G t z (bm ((dpC (σ 3) p.toNat (σ 1 2)).1))) dX7_mixedWeights_78 svX7_mixed q310 rfl ⟨Nat.le_of_ble_eq_true rfl, Nat.le_of_ble_eq_true rfl⟩ (Nat.le_of_ble_eq_true rfl) ⟨Nat.le_of_ble_eq_true rfl, Nat.le_of_ble_eq_true rfl⟩ ?_
          rintro _ _ ⟨rfl, rfl⟩
          refine r_lstore_n (lv' := [(0, Rf G 0), (1, Lg h0), (3, Lg (31 * z + (bm ((dpC (σ 3) p.toNat (σ 1 2)).1)))), (5, I p)]) dX7_mixedWeights_81 rfl (Nat.le_of_ble_eq_true rfl) rfl ?_
          refine r_lload_n dX7_mixedWeights_82 rfl rfl ?_
          refine r_aload_n dX7_mixedWeights_83 rfl rfl ?_
          refine r_getR (b := 10) dX7_mixedWeights_84 sh0 rfl (ci := 7) (j := 3) rfl (Nat.le_of_ble_eq_true rfl) ixX7 q136 rfl ?_
          refine r_iload dX7_mixedWeights_87 rfl ?_
          refine r_callV (tX0_triedCost G t p (by omega)) dX7_mixedWeights_89 svX0_triedCost q367 sh10 (ci := 0) rfl rfl rfl ⟨Nat.le_of_ble_eq_true rfl, Nat.le_of_ble_eq_true rfl⟩ (Nat.le_of_ble_eq_true rfl) ⟨Nat.le_of_ble_eq_true rfl, Nat.le_of_ble_eq_true rfl⟩ ?_
          rintro _ _ ⟨rfl, rfl⟩
          rw [h14 _ hp.1 (by omega)]
          refine r_i2lb dX7_mixedWeights_92 ?_
          refine r_callS (tX7_mixed G t (31 * z + (bm ((dpC (σ 3) p.toNat (σ 1 2)).1))) (bm ((dpC (σ 3) p.toNat (σ 1 2)).1))) dX7_mixedWeights_93 svX7_mixed q310 rfl ⟨Nat.le_of_ble_eq_true rfl, Nat.le_of_ble_eq_true rfl⟩ (Nat.le_of_ble_eq_true rfl) ⟨Nat.le_of_ble_eq_true rfl, Nat.le_of_ble_eq_true rfl⟩ ?_
          rintro _ _ ⟨rfl, rfl⟩
          refine r_lstore_n (lv' := [(0, Rf G 0), (1, Lg h0), (3, Lg (31 * (31 * z + (bm ((dpC (σ 3) p.toNat (σ 1 2)).1))) + (bm ((dpC (σ 3) p.toNat (σ 1 2)).1)))), (5, I p)]) dX7_mixedWeights_96 rfl (Nat.le_of_ble_eq_true rfl) rfl ?_
          refine r_iconst dX7_mixedWeights_97 ?_
          refine r_istore (lv' := [(0, Rf G 0), (1, Lg h0), (3, Lg (31 * (31 * z + (bm ((dpC (σ 3) p.toNat (σ 1 2)).1))) + (bm ((dpC (σ 3) p.toNat (σ 1 2)).1)))), (5, I p), (6, I 0)]) dX7_mixedWeights_98 (Nat.le_of_ble_eq_true rfl) rfl ?_
          have L100 : ∀ (mm : Nat) (c v : Int), (p - c).toNat = mm → (hc : 0 ≤ c ∧ c ≤ p - 1) → (hv : v = mxG (fun c => ctF (σ 3) p (σ 1 2) (p - c - 1).toNat) (31 * (31 * z + bm (dpC (σ 3) p.toNat (σ 1 2)).1) + bm (dpC (σ 3) p.toNat (σ 1 2)).1) c.toNat) → Rn G mX7_mixedWeights (rmD 17 0 0) E0 (Zn G false SH P 0 0) false SH 0 0 100 [(0, Rf G 0), (1, Lg h0), (3, Lg v), (5, I p), (6, I c)] [] t := by
            intro mm
            induction mm using Nat.strongRecOn with
            | _ mm ih100 =>
            intro c v hm100 hc hv
            refine r_iload dX7_mixedWeights_100 rfl ?_
            refine r_iload dX7_mixedWeights_102 rfl ?_
            refine r_iconst dX7_mixedWeights_104 ?_
            refine r_isub dX7_mixedWeights_105 ?_
            refine r_icmp_ge (tgt := 132) dX7_mixedWeights_106 (by decide) (by omega) (fun hb3 => ?_) (fun hb3 => ?_)
            · skip
              refine r_iinc (lv' := [(0, Rf G 0), (1, Lg h0), (3, Lg v), (5, I (p + 1)), (6, I c)]) dX7_mixedWeights_132 (Nat.le_of_ble_eq_true rfl) rfl rfl ?_
              refine r_goto (tgt := 55) dX7_mixedWeights_135 (by decide) ?_
              refine r_sub [0, 1, 2, 3] rfl ?_
              exact ih55 _ (by omega) (p + 1) _ rfl (by omega) (by rw [hv, show c = p - 1 by omega, show p + 1 - 1 = p by omega]; exact cuA_s hp.1 hz)
            · skip
              refine r_lload_n dX7_mixedWeights_109 rfl rfl ?_
              refine r_aload_n dX7_mixedWeights_110 rfl rfl ?_
              refine r_getR (b := 10) dX7_mixedWeights_111 sh0 rfl (ci := 7) (j := 3) rfl (Nat.le_of_ble_eq_true rfl) ixX7 q136 rfl ?_
              refine r_iload dX7_mixedWeights_114 rfl ?_
              refine r_iload dX7_mixedWeights_116 rfl ?_
              refine r_callV (tX0_plannedCut G t p c (by rw [e1]; exact hn) (by rw [e1, e3]; exact hwt) (by rw [e1]; omega) (by rw [e1, e3]; exact h12)) dX7_mixedWeights_118 svX0_plannedCut q368 sh10 (ci := 0) rfl rfl rfl ⟨Nat.le_of_ble_eq_true rfl, Nat.le_of_ble_eq_true rfl⟩ (Nat.le_of_ble_eq_true rfl) ⟨Nat.le_of_ble_eq_true rfl, Nat.le_of_ble_eq_true rfl⟩ ?_
              rintro _ _ ⟨rfl, rfl⟩
              rw [show t 1 2 = σ 1 2 from (congrFun (hty.1 1 (by decide)) 2).trans (congrFun (hpl.1 1 (by decide) (by decide) (by decide)) 2)]
              try rw [e3]
              refine r_i2lb dX7_mixedWeights_121 ?_
              refine r_callS (tX7_mixed G t v (bm (ctF (σ 3) p (σ 1 2) (p - c - 1).toNat))) dX7_mixedWeights_122 svX7_mixed q310 rfl ⟨Nat.le_of_ble_eq_true rfl, Nat.le_of_ble_eq_true rfl⟩ (Nat.le_of_ble_eq_true rfl) ⟨Nat.le_of_ble_eq_true rfl, Nat.le_of_ble_eq_true rfl⟩ ?_
              rintro _ _ ⟨rfl, rfl⟩
              refine r_lstore_n (lv' := [(0, Rf G 0), (1, Lg h0), (3, Lg (31 * v + (bm (ctF (σ 3) p (σ 1 2) (p - c - 1).toNat)))), (5, I p), (6, I c)]) dX7_mixedWeights_125 rfl (Nat.le_of_ble_eq_true rfl) rfl ?_
              refine r_iinc (lv' := [(0, Rf G 0), (1, Lg h0), (3, Lg (31 * v + (bm (ctF (σ 3) p (σ 1 2) (p - c - 1).toNat)))), (5, I p), (6, I (c + 1))]) dX7_mixedWeights_126 (Nat.le_of_ble_eq_true rfl) rfl rfl ?_
              refine r_goto (tgt := 100) dX7_mixedWeights_129 (by decide) ?_
              exact ih100 _ (by omega) (c + 1) _ rfl (by omega) (mxG_s (v := fun c => ctF (σ 3) p (σ 1 2) (p - c - 1).toNat) (by omega) hv)
          exact L100 _ 0 _ rfl (by omega) (rfl)
      exact L55 _ 1 _ rfl (by omega) (by rw [hy, show i = σ 1 2 by omega]; rfl)
    · skip
      refine r_lload_n dX7_mixedWeights_17 rfl rfl ?_
      refine r_aload_n dX7_mixedWeights_18 rfl rfl ?_
      refine r_getR (b := 1) dX7_mixedWeights_19 sh0 rfl (ci := 7) (j := 0) rfl (Nat.le_of_ble_eq_true rfl) ixX7 q133 rfl ?_
      refine r_iload dX7_mixedWeights_22 rfl ?_
      refine r_callV (tX5_weightAt G σ i (by omega)) dX7_mixedWeights_24 svX5_weightAt q337 sh1 (ci := 5) rfl rfl rfl ⟨Nat.le_of_ble_eq_true rfl, Nat.le_of_ble_eq_true rfl⟩ (Nat.le_of_ble_eq_true rfl) ⟨Nat.le_of_ble_eq_true rfl, Nat.le_of_ble_eq_true rfl⟩ ?_
      rintro _ _ ⟨rfl, rfl⟩
      refine r_i2lb dX7_mixedWeights_27 ?_
      refine r_callS (tX7_mixed G σ y (bm (σ 3 i))) dX7_mixedWeights_28 svX7_mixed q310 rfl ⟨Nat.le_of_ble_eq_true rfl, Nat.le_of_ble_eq_true rfl⟩ (Nat.le_of_ble_eq_true rfl) ⟨Nat.le_of_ble_eq_true rfl, Nat.le_of_ble_eq_true rfl⟩ ?_
      rintro _ _ ⟨rfl, rfl⟩
      refine r_lstore_n (lv' := [(0, Rf G 0), (1, Lg h0), (3, Lg (31 * y + (bm (σ 3 i)))), (5, I i)]) dX7_mixedWeights_31 rfl (Nat.le_of_ble_eq_true rfl) rfl ?_
      refine r_iinc (lv' := [(0, Rf G 0), (1, Lg h0), (3, Lg (31 * y + (bm (σ 3 i)))), (5, I (i + 1))]) dX7_mixedWeights_32 (Nat.le_of_ble_eq_true rfl) rfl rfl ?_
      refine r_goto (tgt := 5) dX7_mixedWeights_35 (by decide) ?_
      exact ih5 _ (by omega) (i + 1) _ rfl (by omega) (mxG_s (by omega) hy)
  exact L5 _ 0 _ rfl (by omega) (rfl)
set_option maxHeartbeats 1000000 in
set_option maxRecDepth 100000 in
theorem tX1_shareOfHalves (G : GT) (σ : Sg) (k n : Int) (e0 : σ 7 0 = n) (e1 : σ 7 1 = k) (hn : 1 ≤ n ∧ n ≤ 100) (hv : vf_n64 (dvK k n)) : Ct G mX1_shareOfHalves 3 0 0 false SH SH [Rf G 5] σ (fun rv sv => some (Value.double (dvK k n)) = rv ∧ σ = sv) := by
  obtain ⟨P, hP⟩ : ∃ P : Option Value → Sg → Prop, P = (fun rv sv => some (Value.double (dvK k n)) = rv ∧ σ = sv) := ⟨_, rfl⟩
  rw [← hP]
  refine ct_of (lv := [(0, Rf G 5)]) (by decide +kernel) (Nat.le_of_ble_eq_true rfl) rfl ?_
  refine r_aload_n dX1_shareOfHalves_0 rfl rfl ?_
  refine r_iconst dX1_shareOfHalves_1 ?_
  refine r_callV (tX1_looksBy G σ 0 (by omega)) dX1_shareOfHalves_2 svX1_looksBy q285 sh5 (ci := 1) rfl rfl rfl ⟨Nat.le_of_ble_eq_true rfl, Nat.le_of_ble_eq_true rfl⟩ (Nat.le_of_ble_eq_true rfl) ⟨Nat.le_of_ble_eq_true rfl, Nat.le_of_ble_eq_true rfl⟩ ?_
  rintro _ _ ⟨rfl, rfl⟩
  rw [e0]
  refine r_istore_n (lv' := [(0, Rf G 5), (1, I n)]) dX1_shareOfHalves_5 rfl (Nat.le_of_ble_eq_true rfl) rfl ?_
  refine r_iload_n dX1_shareOfHalves_6 rfl rfl ?_
  refine r_if_gt (tgt := 14) dX1_shareOfHalves_7 (by decide) (by omega) (fun hb1 => ?_) (fun hb1 => ?_)
  · skip
    refine r_aload_n dX1_shareOfHalves_14 rfl rfl ?_
    refine r_iconst dX1_shareOfHalves_15 ?_
    refine r_callV (tX1_looksBy G σ 1 (by omega)) dX1_shareOfHalves_16 svX1_looksBy q285 sh5 (ci := 1) rfl rfl rfl ⟨Nat.le_of_ble_eq_true rfl, Nat.le_of_ble_eq_true rfl⟩ (Nat.le_of_ble_eq_true rfl) ⟨Nat.le_of_ble_eq_true rfl, Nat.le_of_ble_eq_true rfl⟩ ?_
    rintro _ _ ⟨rfl, rfl⟩
    rw [e1]
    refine r_i2d dX1_shareOfHalves_19 ?_
    refine r_iload_n dX1_shareOfHalves_20 rfl rfl ?_
    refine r_i2d dX1_shareOfHalves_21 ?_
    refine r_ddiv dX1_shareOfHalves_22 (hv) ?_
    exact r_dret dX1_shareOfHalves_23 rfl (by rw [hP]; exact ⟨rfl, rfl⟩)
  · skip
    exact absurd hb1 (by omega)
set_option maxHeartbeats 1000000 in
set_option maxRecDepth 100000 in
theorem tX7_halfShare (G : GT) (σ : Sg)  (hci : CI σ) : Ct G mX7_halfShare 16 0 0 false SH SH [Rf G 0] σ (fun rv sv => some (.double (shF (stC σ 1))) = rv ∧ Qs σ sv) := by
  obtain ⟨P, hP⟩ : ∃ P : Option Value → Sg → Prop, P = (fun rv sv => some (.double (shF (stC σ 1))) = rv ∧ Qs σ sv) := ⟨_, rfl⟩
  rw [← hP]
  refine ct_of (lv := [(0, Rf G 0)]) (by decide +kernel) (Nat.le_of_ble_eq_true rfl) rfl ?_
  have hci0 := hci.us
  have hT0 : nT (stC σ 1) = σ 2 := hci.T
  obtain ⟨hR, hC, -⟩ := hci0
  refine r_aload_n dX7_halfShare_0 rfl rfl ?_
  refine r_getR (b := 4) dX7_halfShare_1 sh0 rfl (ci := 7) (j := 1) rfl (Nat.le_of_ble_eq_true rfl) ixX7 q134 rfl ?_
  refine r_callV (tX3_isKept G σ  (hci.us.1) (hci.us.2.1) (hci.us.2.2.2.1)) dX7_halfShare_4 svX3_isKept q228 sh4 (ci := 3) rfl rfl rfl ⟨Nat.le_of_ble_eq_true rfl, Nat.le_of_ble_eq_true rfl⟩ (Nat.le_of_ble_eq_true rfl) ⟨Nat.le_of_ble_eq_true rfl, Nat.le_of_ble_eq_true rfl⟩ ?_
  rintro _ _ ⟨⟨hk, rfl⟩ | ⟨hk, rfl⟩, rfl⟩
  · skip
    refine r_if_ne (tgt := 12) dX7_halfShare_7 (by decide) (by omega) (fun hb1 => ?_) (fun hb1 => ?_)
    · skip
      refine r_aload_n dX7_halfShare_12 rfl rfl ?_
      refine r_getR (b := 5) dX7_halfShare_13 sh0 rfl (ci := 7) (j := 2) rfl (Nat.le_of_ble_eq_true rfl) ixX7 q135 rfl ?_
      refine r_iconst dX7_halfShare_16 ?_
      refine r_callV (tX1_seek G (exs σ (100 * (σ 1 0 - 1))) 0 (by omega) ((Qs.ex.ci hci).us.1) ((Qs.ex.ci hci).us.2.1) ((Qs.ex.ci hci).us.2.2.2.1) ((Qs.ex.ci hci).us.2.2.2.2.2.1)) dX7_halfShare_17 svX1_seek q233 sh5 (ci := 1) rfl rfl rfl ⟨Nat.le_of_ble_eq_true rfl, Nat.le_of_ble_eq_true rfl⟩ (Nat.le_of_ble_eq_true rfl) ⟨Nat.le_of_ble_eq_true rfl, Nat.le_of_ble_eq_true rfl⟩ ?_
      rintro _ s ⟨rfl, h1⟩
      have a1 : s 1 = σ 1 := by rw [h1.1 1 (by decide) (by decide) (by decide) (by decide) (by decide), exs_ne (by decide)]
      have a2 : s 2 = σ 2 := by rw [h1.1 2 (by decide) (by decide) (by decide) (by decide) (by decide), exs_ne (by decide)]
      refine r_aload_n dX7_halfShare_20 rfl rfl ?_
      refine r_getR (b := 5) dX7_halfShare_21 sh0 rfl (ci := 7) (j := 2) rfl (Nat.le_of_ble_eq_true rfl) ixX7 q135 rfl ?_
      refine r_iconst dX7_halfShare_24 ?_
      refine r_callV (tX1_seek G s 1 (by omega) (((Qs.sk h1).ci (Qs.ex.ci hci)).us.1) (((Qs.sk h1).ci (Qs.ex.ci hci)).us.2.1) (((Qs.sk h1).ci (Qs.ex.ci hci)).us.2.2.2.1) (((Qs.sk h1).ci (Qs.ex.ci hci)).us.2.2.2.2.2.1)) dX7_halfShare_25 svX1_seek q233 sh5 (ci := 1) rfl rfl rfl ⟨Nat.le_of_ble_eq_true rfl, Nat.le_of_ble_eq_true rfl⟩ (Nat.le_of_ble_eq_true rfl) ⟨Nat.le_of_ble_eq_true rfl, Nat.le_of_ble_eq_true rfl⟩ ?_
      rintro _ t ⟨rfl, h2⟩
      refine r_aload_n dX7_halfShare_28 rfl rfl ?_
      refine r_getR (b := 5) dX7_halfShare_29 sh0 rfl (ci := 7) (j := 2) rfl (Nat.le_of_ble_eq_true rfl) ixX7 q135 rfl ?_
      refine r_callV (tX1_shareOfHalves G t (LW (σ 2) (σ 1 0) (σ 1 1) 1) (σ 1 1 * σ 1 0) (by rw [h2.2.2.2.1 0 (by decide), h1.2.2.1, exs_ne (by decide), exs_ne (by decide), LW0]) (by rw [h2.2.2.1, a1, a2]) (by have h3 := LW1_bd (T := σ 2) hR hC; have h4 : σ 1 1 * σ 1 0 ≤ 10 * 10 := Int.mul_le_mul hC.2 hR.2 (by omega) (by omega); omega) (by obtain ⟨i, -, hb⟩ := b_rc hR hC (LW1_bd (T := σ 2) hR hC); exact (bOK_u hb).2.2.2.2.2.2.1)) dX7_halfShare_32 svX1_shareOfHalves q281 sh5 (ci := 1) rfl rfl rfl ⟨Nat.le_of_ble_eq_true rfl, Nat.le_of_ble_eq_true rfl⟩ (Nat.le_of_ble_eq_true rfl) ⟨Nat.le_of_ble_eq_true rfl, Nat.le_of_ble_eq_true rfl⟩ ?_
      rintro _ _ ⟨rfl, rfl⟩
      exact r_dret dX7_halfShare_35 rfl (by rw [hP]; exact ⟨by rw [shF_y hT0 hk], (((((((Qs.refl σ)).tr Qs.ex)).tr (Qs.sk h1))).tr (Qs.sk h2))⟩)
    · skip
      exact absurd hb1 (by omega)
  · skip
    refine r_if_ne (tgt := 12) dX7_halfShare_7 (by decide) (by omega) (fun hb2 => ?_) (fun hb2 => ?_)
    · skip
      exact absurd hb2 (by omega)
    · skip
      refine r_dconst0 dX7_halfShare_10 ?_
      exact r_dret dX7_halfShare_11 rfl (by rw [hP]; exact ⟨by rw [shF_n hT0 hk], (((Qs.refl σ)).tr Qs.ex)⟩)
