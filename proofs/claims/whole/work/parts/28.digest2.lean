
theorem shl52 {e : Int} (h : 1016 ≤ e ∧ e ≤ 1023) : Int64.ofInt e <<< ((Int32.ofInt 52).toInt64 &&& 63) = Int64.ofInt (e * 4503599627370496) := by
  have hy : e = 1016 ∨ e = 1017 ∨ e = 1018 ∨ e = 1019 ∨ e = 1020 ∨ e = 1021 ∨ e = 1022 ∨ e = 1023 := by omega
  rcases hy with rfl | rfl | rfl | rfl | rfl | rfl | rfl | rfl <;> decide +kernel
/-- the digest of an abstract state -/
def mxL (h : Int) (l : List Int) : Int := l.foldl (fun a c => 31 * a + bm c) h
theorem mxL_bf {g : Int → Int} {h : Int} : ∀ k : Nat, mxL h ((List.range k).map (fun (i : Nat) => g (i : Int))) = mxG g h k
  | 0 => rfl
  | k + 1 => by
    have ih := mxL_bf (g := g) (h := h) k
    rw [List.range_succ, List.map_append]
    unfold mxL at ih ⊢
    rw [List.foldl_append, ih]
    rfl
def dgS (x : St) (hl : Int) : Int := 31 * hwF (nW x) x.2.2.1 (hpF x x.1 x.2.1 (mxC x.2.1 (nT x) (mxG (cnF x hl) 3613 9) (10 * x.1).toNat)) + dbv (shF x)
def dgF (A : Ab) : Int := mxL (31 * (31 * (31 * dgS A.1 A.2.1.length + flO A.2.2.1) + flO A.2.2.2.1) + bm A.2.2.2.2.length) A.2.2.2.2
theorem bit0 : dbv FP.dconst0 = 0 := by decide +kernel
theorem sl_fl {σ : Sg} {f a : Nat} {z : Int} (hz : z = if σ f 0 = 0 then 0 else 1) (h : σ f 0 = 0 ∨ σ f 0 = 1) : flO (slC σ f a) = z := by
  subst hz
  unfold slC
  rcases h with h | h
  · rw [h]; rfl
  · rw [h]; rfl
theorem dg_end {σ : Sg} (hci : CI σ) {h5 z0 z1 n : Int} (hs : h5 = 31 * hwF (σ 3) (σ 1 2) (hpF (stC σ 1) (σ 1 0) (σ 1 1) (mxC (σ 1 1) (σ 2) (mxG (cnF (stC σ 1) (σ 18 0)) 3613 9) (10 * σ 1 0).toNat)) + dbv (shF (stC σ 1)))
    (h0 : z0 = if σ 38 0 = 0 then 0 else 1) (h1 : z1 = if σ 42 0 = 0 then 0 else 1) (hn : n = σ 15 0) : mxG (σ 16) (31 * (31 * (31 * h5 + z0) + z1) + bm n) (σ 15 0).toNat = dgF (absC σ) := by
  have hT : nT (stC σ 1) = σ 2 := hci.T
  have hu := hci.us
  have hl : ((hiC σ).length : Int) = σ 18 0 := by rw [hiC_len]; have := hu.2.2.2.2.2.2.2.2.1.1; omega
  have hb : ((bfC (σ 16) (σ 15 0)).length : Int) = σ 15 0 := by unfold bfC; rw [List.length_map, List.length_range]; have := hu.2.2.2.2.2.2.2.2.2.1; omega
  have e1 : dgS (stC σ 1) ((hiC σ).length : Int) = h5 := by
    rw [hl, hs]
    unfold dgS
    rw [hT]
    have e2 : hwF (nW (stC σ 1)) (stC σ 1).2.2.1 (hpF (stC σ 1) (stC σ 1).1 (stC σ 1).2.1 (mxC (stC σ 1).2.1 (σ 2) (mxG (cnF (stC σ 1) (σ 18 0)) 3613 9) (10 * (stC σ 1).1).toNat)) = hwF (σ 3) (σ 1 2) (hpF (stC σ 1) (σ 1 0) (σ 1 1) (mxC (σ 1 1) (σ 2) (mxG (cnF (stC σ 1) (σ 18 0)) 3613 9) (10 * σ 1 0).toNat)) :=
      hwF_c (fun r a b => rs_at ⟨a, b⟩) hu.2.2.2.2.1 ⟨by have := hu.2.2.1; show 0 ≤ σ 1 2; omega, hu.2.2.1.2⟩
    rw [e2]
  have hf := hci.2.2.2.1
  unfold dgF
  show _ = mxL (31 * (31 * (31 * dgS (stC σ 1) ((hiC σ).length : Int) + flO (slC σ 38 39)) + flO (slC σ 42 43)) + bm ((bfC (σ 16) (σ 15 0)).length : Int)) (bfC (σ 16) (σ 15 0))
  rw [e1, hb, sl_fl h0 hf.1, sl_fl h1 hf.2, hn]
  exact (mxL_bf _).symm

set_option maxHeartbeats 1000000 in
set_option maxRecDepth 100000 in
theorem tX7_bitsOf (G : GT) (σ : Sg) (x : UInt64) (i0 : Nat) (hi : i0 ≤ 7) (hb : bOK x i0 = true) : Ct G mX7_bitsOf 1 0 0 false SH SH [Value.double x] σ (fun rv sv => some (Lg (dbv x)) = rv ∧ σ = sv) := by
  obtain ⟨P, hP⟩ : ∃ P : Option Value → Sg → Prop, P = (fun rv sv => some (Lg (dbv x)) = rv ∧ σ = sv) := ⟨_, rfl⟩
  rw [← hP]
  refine ct_of (lv := [(0, Value.double x)]) (by decide +kernel) (Nat.le_of_ble_eq_true rfl) rfl ?_
  obtain ⟨b1, b2, b3, ⟨cz, b4, b5, b6⟩, b7, b8, -⟩ := bOK_u hb
  refine r_dload_n dX7_bitsOf_0 rfl rfl ?_
  refine r_dconst0 dX7_bitsOf_1 ?_
  refine r_dcmp (z := 1) dX7_bitsOf_2 (b1) ?_
  refine r_if_gt (tgt := 8) dX7_bitsOf_3 (by decide) (by omega) (fun hb1 => ?_) (fun hb1 => ?_)
  · skip
    refine r_dload_n dX7_bitsOf_8 rfl rfl ?_
    refine r_dstore_n (lv' := [(0, Value.double x), (2, Value.double x)]) dX7_bitsOf_9 rfl (Nat.le_of_ble_eq_true rfl) rfl ?_
    refine r_ldc2 (z := 1023) dX7_bitsOf_10 q381 ?_
    refine r_lstore (lv' := [(0, Value.double x), (2, Value.double x), (4, Lg 1023)]) dX7_bitsOf_13 (Nat.le_of_ble_eq_true rfl) rfl ?_
    refine r_iconst dX7_bitsOf_15 ?_
    refine r_istore (lv' := [(0, Value.double x), (2, Value.double x), (4, Lg 1023), (6, I 0)]) dX7_bitsOf_16 (Nat.le_of_ble_eq_true rfl) rfl ?_
    have L18 : ∀ (mm : Nat) (i e : Int) (y : UInt64), (8 - i).toNat = mm → (hj : 0 ≤ i ∧ i ≤ i0) → (he : e = 1023 - i) → (hy : y = bz x i.toNat) → Rn G mX7_bitsOf (rmD 1 0 0) E0 (Zn G false SH P 0 0) false SH 0 0 18 [(0, Value.double x), (2, Value.double y), (4, Lg e), (6, I i)] [] σ := by
      intro mm
      induction mm using Nat.strongRecOn with
      | _ mm ih18 =>
      intro i e y hm18 hj he hy
      obtain ⟨z, hz, hzz1, hzz2⟩ : ∃ z : Int, Op.cmpValue (FP.dcmp y FP.dconst1) .g = Int32.ofInt z ∧ (z < 0 → i < i0 ∧ vf_n64 (FP.dmul y (4611686018427387904 : UInt64))) ∧ (0 ≤ z → i = i0) ∧ (-1 ≤ z ∧ z ≤ 1) := by
        by_cases q : i < i0
        · exact ⟨-1, by rw [hy]; exact (b3 i.toNat (by omega)).1, fun _ => ⟨q, by rw [hy]; exact (b3 i.toNat (by omega)).2⟩, fun q => absurd q (by decide), by decide, by decide⟩
        · exact ⟨cz, by rw [hy, show i.toNat = i0 by omega]; exact b4, fun q => absurd q (by omega), fun _ => by omega, by omega, by omega⟩
      refine r_iload dX7_bitsOf_18 rfl ?_
      refine r_sipush dX7_bitsOf_20 rfl ?_
      refine r_icmp_ge (tgt := 50) dX7_bitsOf_23 (by decide) (by omega) (fun hb2 => ?_) (fun hb2 => ?_)
      · skip
        exact absurd hb2 (by omega)
      · skip
        refine r_dload_n dX7_bitsOf_26 rfl rfl ?_
        refine r_dconst1 dX7_bitsOf_27 ?_
        refine r_dcmp (z := z) dX7_bitsOf_28 (hz) ?_
        refine r_if_ge (tgt := 50) dX7_bitsOf_29 (by decide) (by omega) (fun hb3 => ?_) (fun hb3 => ?_)
        · skip
          have hie := hzz2.1 (by omega)
          refine r_dload_n dX7_bitsOf_50 rfl rfl ?_
          refine r_dconst1 dX7_bitsOf_51 ?_
          refine r_dsub dX7_bitsOf_52 (by rw [hy, show i.toNat = i0 by omega]; exact b7) ?_
          refine r_ldc2d (z := 4841369599423283200) dX7_bitsOf_53 q383 ?_
          refine r_dmul dX7_bitsOf_56 (by rw [hy, show i.toNat = i0 by omega]; exact b8) ?_
          refine r_d2l (z := (FP.d2l (FP.dmul (FP.dsub y FP.dconst1) (4841369599423283200 : UInt64))).toInt) dX7_bitsOf_57 ((Int64.ofInt_toInt _).symm) ?_
          refine r_lstore (lv' := [(0, Value.double x), (2, Value.double y), (4, Lg e), (6, Lg ((FP.d2l (FP.dmul (FP.dsub y FP.dconst1) (4841369599423283200 : UInt64))).toInt))]) dX7_bitsOf_58 (Nat.le_of_ble_eq_true rfl) rfl ?_
          refine r_lload dX7_bitsOf_60 rfl ?_
          refine r_bipush dX7_bitsOf_62 rfl ?_
          refine r_lshl (z := e * 4503599627370496) dX7_bitsOf_64 (shl52 (by omega)) ?_
          refine r_lload dX7_bitsOf_65 rfl ?_
          refine r_ladd dX7_bitsOf_67 ?_
          exact r_lret dX7_bitsOf_68 rfl (by rw [hP]; exact ⟨by rw [Lg, ← b_fin hb (hzz2.1 (by omega)) he hy]; rfl, rfl⟩)
        · skip
          refine r_dload_n dX7_bitsOf_32 rfl rfl ?_
          refine r_ldc2d (z := 4611686018427387904) dX7_bitsOf_33 q382 ?_
          refine r_dmul dX7_bitsOf_36 ((hzz1 (by omega)).2) ?_
          refine r_dstore_n (lv' := [(0, Value.double x), (2, Value.double (FP.dmul y (4611686018427387904 : UInt64))), (4, Lg e), (6, I i)]) dX7_bitsOf_37 rfl (Nat.le_of_ble_eq_true rfl) rfl ?_
          refine r_lload dX7_bitsOf_38 rfl ?_
          refine r_lconst (z := 1) dX7_bitsOf_40 rfl ?_
          refine r_lsub dX7_bitsOf_41 ?_
          refine r_lstore (lv' := [(0, Value.double x), (2, Value.double (FP.dmul y (4611686018427387904 : UInt64))), (4, Lg (e - 1)), (6, I i)]) dX7_bitsOf_42 (Nat.le_of_ble_eq_true rfl) rfl ?_
          refine r_iinc (lv' := [(0, Value.double x), (2, Value.double (FP.dmul y (4611686018427387904 : UInt64))), (4, Lg (e - 1)), (6, I (i + 1))]) dX7_bitsOf_44 (Nat.le_of_ble_eq_true rfl) rfl rfl ?_
          refine r_goto (tgt := 18) dX7_bitsOf_47 (by decide) ?_
          have hzz3 := (hzz1 (by omega)).1
          exact ih18 _ (by omega) (i + 1) _ _ rfl (by omega) (by omega) (by rw [show (i + 1).toNat = i.toNat + 1 by omega, hy]; rfl)
    exact L18 _ 0 _ _ rfl (by omega) (rfl) (rfl)
  · skip
    exact absurd hb1 (by omega)
set_option maxHeartbeats 1000000 in
set_option maxRecDepth 100000 in
theorem tX7_bitsOf0 (G : GT) (σ : Sg) (x : UInt64) (hx : x = FP.dconst0) : Ct G mX7_bitsOf 1 0 0 false SH SH [Value.double x] σ (fun rv sv => some (Lg (dbv x)) = rv ∧ σ = sv) := by
  obtain ⟨P, hP⟩ : ∃ P : Option Value → Sg → Prop, P = (fun rv sv => some (Lg (dbv x)) = rv ∧ σ = sv) := ⟨_, rfl⟩
  rw [← hP]
  refine ct_of (lv := [(0, Value.double x)]) (by decide +kernel) (Nat.le_of_ble_eq_true rfl) rfl ?_
  refine r_dload_n dX7_bitsOf_0 rfl rfl ?_
  refine r_dconst0 dX7_bitsOf_1 ?_
  refine r_dcmp (z := 0) dX7_bitsOf_2 (by rw [hx]; decide +kernel) ?_
  refine r_if_gt (tgt := 8) dX7_bitsOf_3 (by decide) (by omega) (fun hb1 => ?_) (fun hb1 => ?_)
  · skip
    exact absurd hb1 (by omega)
  · skip
    refine r_lconst (z := 0) dX7_bitsOf_6 rfl ?_
    exact r_lret dX7_bitsOf_7 rfl (by rw [hP]; exact ⟨by rw [hx, bit0], rfl⟩)

theorem tX7_bitsOfG (G : GT) (σ : Sg) (x : UInt64) (hx : x = FP.dconst0 ∨ ∃ i : Nat, i ≤ 7 ∧ bOK x i = true) : Ct G mX7_bitsOf 1 0 0 false SH SH [.double x] σ (fun rv sv => some (Lg (dbv x)) = rv ∧ σ = sv) := by
  rcases hx with h | ⟨i, h1, h2⟩
  · exact tX7_bitsOf0 G σ x h
  · exact tX7_bitsOf G σ x i h1 h2
theorem sh_ok {σ : Sg} (hci : CI σ) : shF (stC σ 1) = FP.dconst0 ∨ ∃ i : Nat, i ≤ 7 ∧ bOK (shF (stC σ 1)) i = true := by
  have hT : nT (stC σ 1) = σ 2 := hci.T
  have hu := hci.us
  by_cases h : Kp (σ 1 0) (σ 1 1) (σ 2)
  · right
    rw [shF_y hT h]
    exact b_rc hu.1 hu.2.1 (LW1_bd hu.1 hu.2.1)
  · exact Or.inl (shF_n hT h)

set_option maxHeartbeats 1000000 in
set_option maxRecDepth 100000 in
theorem tX7_digest (G : GT) (σ : Sg)  (hci : CI σ) : Ct G mX7_digest 18 0 0 false SH SH [Rf G 0] σ (fun rv sv => some (Lg (dgF (absC σ))) = rv ∧ Qs σ sv) := by
  obtain ⟨P, hP⟩ : ∃ P : Option Value → Sg → Prop, P = (fun rv sv => some (Lg (dgF (absC σ))) = rv ∧ Qs σ sv) := ⟨_, rfl⟩
  rw [← hP]
  refine ct_of (lv := [(0, Rf G 0)]) (by decide +kernel) (Nat.le_of_ble_eq_true rfl) rfl ?_
  have hci0 := hci.us
  obtain ⟨hR, hC, hn, hT, hwt, hp6, h11, h13, hh, hl, hc⟩ := hci0
  have hf := hci.2.2.2.1
  refine r_ldc2 (z := 3613) dX7_digest_0 q293 ?_
  refine r_lstore_n (lv' := [(0, Rf G 0), (1, Lg 3613)]) dX7_digest_3 rfl (Nat.le_of_ble_eq_true rfl) rfl ?_
  refine r_iconst dX7_digest_4 ?_
  refine r_istore_n (lv' := [(0, Rf G 0), (1, Lg 3613), (3, I 0)]) dX7_digest_5 rfl (Nat.le_of_ble_eq_true rfl) rfl ?_
  have L6 : ∀ (mm : Nat) (k y : Int) (s : Sg), (9 - k).toNat = mm → (hk : 0 ≤ k ∧ k ≤ 9) → (hq : Qs σ s) → (hy : y = mxG (cnF (stC σ 1) (σ 18 0)) 3613 k.toNat) → Rn G mX7_digest (rmD 18 0 0) E0 (Zn G false SH P 0 0) false SH 0 0 6 [(0, Rf G 0), (1, Lg y), (3, I k)] [] s := by
    intro mm
    induction mm using Nat.strongRecOn with
    | _ mm ih6 =>
    intro k y s hm6 hk hq hy
    refine r_iload_n dX7_digest_6 rfl rfl ?_
    refine r_bipush dX7_digest_7 rfl ?_
    refine r_icmp_gt (tgt := 29) dX7_digest_9 (by decide) (by omega) (fun hb1 => ?_) (fun hb1 => ?_)
    · skip
      refine r_aload_n dX7_digest_29 rfl rfl ?_
      refine r_lload_n dX7_digest_30 rfl rfl ?_
      refine r_callV (tX7_mixedCells G s y ((hq.ci hci).us.1) ((hq.ci hci).us.2.1)) dX7_digest_31 svX7_mixedCells q314 sh0 (ci := 7) rfl rfl rfl ⟨Nat.le_of_ble_eq_true rfl, Nat.le_of_ble_eq_true rfl⟩ (Nat.le_of_ble_eq_true rfl) ⟨Nat.le_of_ble_eq_true rfl, Nat.le_of_ble_eq_true rfl⟩ ?_
      rintro _ _ ⟨rfl, rfl⟩
      rw [show s 1 1 = σ 1 1 from congrFun (hq.1 1 (by decide)) 1]
      rw [show s 1 0 = σ 1 0 from congrFun (hq.1 1 (by decide)) 0]
      rw [hq.1 2 (by decide)]
      refine r_lstore_n (lv' := [(0, Rf G 0), (1, Lg (mxC (σ 1 1) (σ 2) y (10 * σ 1 0).toNat)), (3, I k)]) dX7_digest_34 rfl (Nat.le_of_ble_eq_true rfl) rfl ?_
      obtain ⟨y2, hy2⟩ : ∃ z, z = mxC (σ 1 1) (σ 2) y (10 * σ 1 0).toNat := ⟨_, rfl⟩
      rw [← hy2]
      refine r_aload_n dX7_digest_35 rfl rfl ?_
      refine r_callV (tX7_seekByAllWays G s  ((hq.ci hci))) dX7_digest_36 svX7_seekByAllWays q317 sh0 (ci := 7) rfl rfl rfl ⟨Nat.le_of_ble_eq_true rfl, Nat.le_of_ble_eq_true rfl⟩ (Nat.le_of_ble_eq_true rfl) ⟨Nat.le_of_ble_eq_true rfl, Nat.le_of_ble_eq_true rfl⟩ ?_
      rintro _ u ⟨rfl, hu⟩
      have hAu : ∀ v, 0 ≤ v → v ≤ 2 → u 7 v = lkW (stC σ 1) v ∧ ∀ r, 0 ≤ r → r < u 1 0 → u 6 (10 * v + r) = plW (stC σ 1) v r := by
        intro v a b; have h := hu.2.2 v a b; unfold DP at h; rw [stC_c (hq.1 1 (by decide)) (hq.1 2 (by decide)) (hq.1 3 (by decide))] at h; rw [hu.1.1 1 (by decide)]; exact h
      have hBu : ∀ k, 0 ≤ k → k ≤ 3 → u 4 k = tlF (stC σ 1) k := by
        intro k a b; have h := hu.2.1 k a b; rw [stC_c (hq.1 1 (by decide)) (hq.1 2 (by decide)) (hq.1 3 (by decide))] at h; exact h
      refine r_aload_n dX7_digest_39 rfl rfl ?_
      refine r_lload_n dX7_digest_40 rfl rfl ?_
      refine r_callV (tX7_mixedPlaces G u (stC σ 1) y2 ((hu.1.ci (hq.ci hci)).us.1) (hAu) (hBu)) dX7_digest_41 svX7_mixedPlaces q324 sh0 (ci := 7) rfl rfl rfl ⟨Nat.le_of_ble_eq_true rfl, Nat.le_of_ble_eq_true rfl⟩ (Nat.le_of_ble_eq_true rfl) ⟨Nat.le_of_ble_eq_true rfl, Nat.le_of_ble_eq_true rfl⟩ ?_
      rintro _ _ ⟨rfl, rfl⟩
      rw [show u 1 0 = σ 1 0 from (congrFun (hu.1.1 1 (by decide)) 0).trans (congrFun (hq.1 1 (by decide)) 0)]
      rw [show u 1 1 = σ 1 1 from (congrFun (hu.1.1 1 (by decide)) 1).trans (congrFun (hq.1 1 (by decide)) 1)]
      refine r_lstore_n (lv' := [(0, Rf G 0), (1, Lg (hpF (stC σ 1) ((σ 1 0)) ((σ 1 1)) y2)), (3, I k)]) dX7_digest_44 rfl (Nat.le_of_ble_eq_true rfl) rfl ?_
      obtain ⟨y3, hy3⟩ : ∃ z, z = hpF (stC σ 1) ((σ 1 0)) ((σ 1 1)) y2 := ⟨_, rfl⟩
      rw [← hy3]
      refine r_aload_n dX7_digest_45 rfl rfl ?_
      refine r_lload_n dX7_digest_46 rfl rfl ?_
      refine r_callV (tX7_mixedWeights G u y3 ((hu.1.ci (hq.ci hci)))) dX7_digest_47 svX7_mixedWeights q334 sh0 (ci := 7) rfl rfl rfl ⟨Nat.le_of_ble_eq_true rfl, Nat.le_of_ble_eq_true rfl⟩ (Nat.le_of_ble_eq_true rfl) ⟨Nat.le_of_ble_eq_true rfl, Nat.le_of_ble_eq_true rfl⟩ ?_
      rintro _ p ⟨rfl, hp⟩
      rw [show u 1 2 = σ 1 2 from (congrFun (hu.1.1 1 (by decide)) 2).trans (congrFun (hq.1 1 (by decide)) 2)]
      rw [hu.1.1 3 (by decide), hq.1 3 (by decide)]
      refine r_lstore_n (lv' := [(0, Rf G 0), (1, Lg (hwF (σ 3) (σ 1 2) y3)), (3, I k)]) dX7_digest_50 rfl (Nat.le_of_ble_eq_true rfl) rfl ?_
      obtain ⟨y4, hy4⟩ : ∃ z, z = hwF (σ 3) (σ 1 2) y3 := ⟨_, rfl⟩
      rw [← hy4]
      refine r_lload_n dX7_digest_51 rfl rfl ?_
      refine r_aload_n dX7_digest_52 rfl rfl ?_
      refine r_callV (tX7_halfShare G p  ((hp.ci (hu.1.ci (hq.ci hci))))) dX7_digest_53 svX7_halfShare q377 sh0 (ci := 7) rfl rfl rfl ⟨Nat.le_of_ble_eq_true rfl, Nat.le_of_ble_eq_true rfl⟩ (Nat.le_of_ble_eq_true rfl) ⟨Nat.le_of_ble_eq_true rfl, Nat.le_of_ble_eq_true rfl⟩ ?_
      rintro _ q ⟨rfl, hqq⟩
      rw [stC_c (hp.1 1 (by decide)) (hp.1 2 (by decide)) (hp.1 3 (by decide)), stC_c (hu.1.1 1 (by decide)) (hu.1.1 2 (by decide)) (hu.1.1 3 (by decide)), stC_c (hq.1 1 (by decide)) (hq.1 2 (by decide)) (hq.1 3 (by decide))]
      refine r_callS (tX7_bitsOfG G q (shF (stC σ 1)) (sh_ok hci)) dX7_digest_56 svX7_bitsOf q378 rfl ⟨Nat.le_of_ble_eq_true rfl, Nat.le_of_ble_eq_true rfl⟩ (Nat.le_of_ble_eq_true rfl) ⟨Nat.le_of_ble_eq_true rfl, Nat.le_of_ble_eq_true rfl⟩ ?_
      rintro _ _ ⟨rfl, rfl⟩
      refine r_callS (tX7_mixed G q y4 (dbv (shF (stC σ 1)))) dX7_digest_59 svX7_mixed q310 rfl ⟨Nat.le_of_ble_eq_true rfl, Nat.le_of_ble_eq_true rfl⟩ (Nat.le_of_ble_eq_true rfl) ⟨Nat.le_of_ble_eq_true rfl, Nat.le_of_ble_eq_true rfl⟩ ?_
      rintro _ _ ⟨rfl, rfl⟩
      refine r_lstore_n (lv' := [(0, Rf G 0), (1, Lg (31 * y4 + (dbv (shF (stC σ 1))))), (3, I k)]) dX7_digest_62 rfl (Nat.le_of_ble_eq_true rfl) rfl ?_
      obtain ⟨y5, hy5⟩ : ∃ z, z = 31 * y4 + (dbv (shF (stC σ 1))) := ⟨_, rfl⟩
      rw [← hy5]
      refine r_lload_n dX7_digest_63 rfl rfl ?_
      refine r_aload_n dX7_digest_64 rfl rfl ?_
      refine r_getR (b := 38) dX7_digest_65 sh0 rfl (ci := 7) (j := 6) rfl (Nat.le_of_ble_eq_true rfl) ixX7 q139 rfl ?_
      refine r_getI (z := 0) dX7_digest_68 sh38 rfl (ci := 4) (j := 0) rfl (Nat.le_of_ble_eq_true rfl) rfl ixX4 q130 rfl (hv := (congrFun (hqq.1 38 (by decide)) 0).trans ((congrFun (hp.1 38 (by decide)) 0).trans ((congrFun (hu.1.1 38 (by decide)) 0).trans (congrFun (hq.1 38 (by decide)) 0)))) ?_
      refine r_if_eq (tgt := 78) dX7_digest_71 (by decide) (by omega) (fun hb2 => ?_) (fun hb2 => ?_)
      · skip
        refine r_lconst (z := 0) dX7_digest_78 rfl ?_
        refine r_callS (tX7_mixed G q y5 0) dX7_digest_79 svX7_mixed q310 rfl ⟨Nat.le_of_ble_eq_true rfl, Nat.le_of_ble_eq_true rfl⟩ (Nat.le_of_ble_eq_true rfl) ⟨Nat.le_of_ble_eq_true rfl, Nat.le_of_ble_eq_true rfl⟩ ?_
        rintro _ _ ⟨rfl, rfl⟩
        refine r_lstore_n (lv' := [(0, Rf G 0), (1, Lg (31 * y5 + 0)), (3, I k)]) dX7_digest_82 rfl (Nat.le_of_ble_eq_true rfl) rfl ?_
        obtain ⟨z0, hz0, gz0⟩ : ∃ z0 : Int, z0 = (if σ 38 0 = 0 then (0 : Int) else 1) ∧ 31 * y5 + 0 = 31 * y5 + z0 := ⟨_, rfl, by first | rw [if_pos (by omega)] | rw [if_neg (by omega)]⟩
        rw [gz0]
        refine r_lload_n dX7_digest_83 rfl rfl ?_
        refine r_aload_n dX7_digest_84 rfl rfl ?_
        refine r_getR (b := 42) dX7_digest_85 sh0 rfl (ci := 7) (j := 7) rfl (Nat.le_of_ble_eq_true rfl) ixX7 q140 rfl ?_
        refine r_getI (z := 0) dX7_digest_88 sh42 rfl (ci := 4) (j := 0) rfl (Nat.le_of_ble_eq_true rfl) rfl ixX4 q130 rfl (hv := (congrFun (hqq.1 42 (by decide)) 0).trans ((congrFun (hp.1 42 (by decide)) 0).trans ((congrFun (hu.1.1 42 (by decide)) 0).trans (congrFun (hq.1 42 (by decide)) 0)))) ?_
        refine r_if_eq (tgt := 98) dX7_digest_91 (by decide) (by omega) (fun hb3 => ?_) (fun hb3 => ?_)
        · skip
          refine r_lconst (z := 0) dX7_digest_98 rfl ?_
          refine r_callS (tX7_mixed G q (31 * y5 + z0) 0) dX7_digest_99 svX7_mixed q310 rfl ⟨Nat.le_of_ble_eq_true rfl, Nat.le_of_ble_eq_true rfl⟩ (Nat.le_of_ble_eq_true rfl) ⟨Nat.le_of_ble_eq_true rfl, Nat.le_of_ble_eq_true rfl⟩ ?_
          rintro _ _ ⟨rfl, rfl⟩
          refine r_lstore_n (lv' := [(0, Rf G 0), (1, Lg (31 * (31 * y5 + z0) + 0)), (3, I k)]) dX7_digest_102 rfl (Nat.le_of_ble_eq_true rfl) rfl ?_
          obtain ⟨z1, hz1, gz1⟩ : ∃ z1 : Int, z1 = (if σ 42 0 = 0 then (0 : Int) else 1) ∧ 31 * (31 * y5 + z0) + 0 = 31 * (31 * y5 + z0) + z1 := ⟨_, rfl, by first | rw [if_pos (by omega)] | rw [if_neg (by omega)]⟩
          rw [gz1]
          refine r_lload_n dX7_digest_103 rfl rfl ?_
          refine r_aload_n dX7_digest_104 rfl rfl ?_
          refine r_getR (b := 15) dX7_digest_105 sh0 rfl (ci := 7) (j := 4) rfl (Nat.le_of_ble_eq_true rfl) ixX7 q137 rfl ?_
          refine r_getI (z := 0) dX7_digest_108 sh15 rfl (ci := 6) (j := 0) rfl (Nat.le_of_ble_eq_true rfl) rfl ixX6 q101 rfl (hv := (hqq.2.1).trans ((hp.2.1).trans ((hu.1.2.1).trans (hq.2.1)))) ?_
          refine r_i2lb dX7_digest_111 ?_
          refine r_callS (tX7_mixed G q (31 * (31 * y5 + z0) + z1) (bm (σ 15 0))) dX7_digest_112 svX7_mixed q310 rfl ⟨Nat.le_of_ble_eq_true rfl, Nat.le_of_ble_eq_true rfl⟩ (Nat.le_of_ble_eq_true rfl) ⟨Nat.le_of_ble_eq_true rfl, Nat.le_of_ble_eq_true rfl⟩ ?_
          rintro _ _ ⟨rfl, rfl⟩
          refine r_lstore_n (lv' := [(0, Rf G 0), (1, Lg (31 * (31 * (31 * y5 + z0) + z1) + (bm (σ 15 0)))), (3, I k)]) dX7_digest_115 rfl (Nat.le_of_ble_eq_true rfl) rfl ?_
          refine r_iconst dX7_digest_116 ?_
          refine r_istore_n (lv' := [(0, Rf G 0), (1, Lg (31 * (31 * (31 * y5 + z0) + z1) + (bm (σ 15 0)))), (3, I 0)]) dX7_digest_117 rfl (Nat.le_of_ble_eq_true rfl) rfl ?_
          have L118 : ∀ (mm : Nat) (i v : Int), (σ 15 0 - i).toNat = mm → (hi : 0 ≤ i ∧ i ≤ σ 15 0) → (hv : v = mxG (σ 16) (31 * (31 * (31 * y5 + z0) + z1) + bm (σ 15 0)) i.toNat) → Rn G mX7_digest (rmD 18 0 0) E0 (Zn G false SH P 0 0) false SH 0 0 118 [(0, Rf G 0), (1, Lg v), (3, I i)] [] q := by
            intro mm
            induction mm using Nat.strongRecOn with
            | _ mm ih118 =>
            intro i v hm118 hi hv
            refine r_iload_n dX7_digest_118 rfl rfl ?_
            refine r_aload_n dX7_digest_119 rfl rfl ?_
            refine r_getR (b := 15) dX7_digest_120 sh0 rfl (ci := 7) (j := 4) rfl (Nat.le_of_ble_eq_true rfl) ixX7 q137 rfl ?_
            refine r_getI (z := 0) dX7_digest_123 sh15 rfl (ci := 6) (j := 0) rfl (Nat.le_of_ble_eq_true rfl) rfl ixX6 q101 rfl (hv := (hqq.2.1).trans ((hp.2.1).trans ((hu.1.2.1).trans (hq.2.1)))) ?_
            refine r_icmp_ge (tgt := 149) dX7_digest_126 (by decide) (by omega) (fun hb4 => ?_) (fun hb4 => ?_)
            · skip
              refine r_lload_n dX7_digest_149 rfl rfl ?_
              exact r_lret dX7_digest_150 rfl (by rw [hP]; exact ⟨by rw [hv, show i = σ 15 0 by omega, dg_end hci (by rw [hy5, hy4, hy3, hy2, hy, show k = 9 by omega]; rfl) hz0 hz1 rfl], ((((((hq).tr hu.1)).tr hp)).tr hqq)⟩)
            · skip
              refine r_lload_n dX7_digest_129 rfl rfl ?_
              refine r_aload_n dX7_digest_130 rfl rfl ?_
              refine r_getR (b := 15) dX7_digest_131 sh0 rfl (ci := 7) (j := 4) rfl (Nat.le_of_ble_eq_true rfl) ixX7 q137 rfl ?_
              refine r_iload_n dX7_digest_134 rfl rfl ?_
              refine r_callV (tX6_codeAt G q i (by omega)) dX7_digest_135 svX6_codeAt q384 sh15 (ci := 6) rfl rfl rfl ⟨Nat.le_of_ble_eq_true rfl, Nat.le_of_ble_eq_true rfl⟩ (Nat.le_of_ble_eq_true rfl) ⟨Nat.le_of_ble_eq_true rfl, Nat.le_of_ble_eq_true rfl⟩ ?_
              rintro _ _ ⟨rfl, rfl⟩
              rw [show q 16 i = σ 16 i from (congrFun (hqq.1 16 (by decide)) i).trans ((congrFun (hp.1 16 (by decide)) i).trans ((congrFun (hu.1.1 16 (by decide)) i).trans (congrFun (hq.1 16 (by decide)) i)))]
              refine r_i2lb dX7_digest_138 ?_
              refine r_callS (tX7_mixed G q v (bm (σ 16 i))) dX7_digest_139 svX7_mixed q310 rfl ⟨Nat.le_of_ble_eq_true rfl, Nat.le_of_ble_eq_true rfl⟩ (Nat.le_of_ble_eq_true rfl) ⟨Nat.le_of_ble_eq_true rfl, Nat.le_of_ble_eq_true rfl⟩ ?_
              rintro _ _ ⟨rfl, rfl⟩
              refine r_lstore_n (lv' := [(0, Rf G 0), (1, Lg (31 * v + (bm (σ 16 i)))), (3, I i)]) dX7_digest_142 rfl (Nat.le_of_ble_eq_true rfl) rfl ?_
              refine r_iinc (lv' := [(0, Rf G 0), (1, Lg (31 * v + (bm (σ 16 i)))), (3, I (i + 1))]) dX7_digest_143 (Nat.le_of_ble_eq_true rfl) rfl rfl ?_
              refine r_goto (tgt := 118) dX7_digest_146 (by decide) ?_
              exact ih118 _ (by omega) (i + 1) _ rfl (by omega) (mxG_s (by omega) hv)
          exact L118 _ 0 _ rfl (by omega) (rfl)
        · skip
          refine r_lconst (z := 1) dX7_digest_94 rfl ?_
          refine r_goto (tgt := 99) dX7_digest_95 (by decide) ?_
          refine r_callS (tX7_mixed G q (31 * y5 + z0) 1) dX7_digest_99 svX7_mixed q310 rfl ⟨Nat.le_of_ble_eq_true rfl, Nat.le_of_ble_eq_true rfl⟩ (Nat.le_of_ble_eq_true rfl) ⟨Nat.le_of_ble_eq_true rfl, Nat.le_of_ble_eq_true rfl⟩ ?_
          rintro _ _ ⟨rfl, rfl⟩
          refine r_lstore_n (lv' := [(0, Rf G 0), (1, Lg (31 * (31 * y5 + z0) + 1)), (3, I k)]) dX7_digest_102 rfl (Nat.le_of_ble_eq_true rfl) rfl ?_
          obtain ⟨z1, hz1, gz1⟩ : ∃ z1 : Int, z1 = (if σ 42 0 = 0 then (0 : Int) else 1) ∧ 31 * (31 * y5 + z0) + 1 = 31 * (31 * y5 + z0) + z1 := ⟨_, rfl, by first | rw [if_pos (by omega)] | rw [if_neg (by omega)]⟩
          rw [gz1]
          refine r_lload_n dX7_digest_103 rfl rfl ?_
          refine r_aload_n dX7_digest_104 rfl rfl ?_
          refine r_getR (b := 15) dX7_digest_105 sh0 rfl (ci := 7) (j := 4) rfl (Nat.le_of_ble_eq_true rfl) ixX7 q137 rfl ?_
          refine r_getI (z := 0) dX7_digest_108 sh15 rfl (ci := 6) (j := 0) rfl (Nat.le_of_ble_eq_true rfl) rfl ixX6 q101 rfl (hv := (hqq.2.1).trans ((hp.2.1).trans ((hu.1.2.1).trans (hq.2.1)))) ?_
          refine r_i2lb dX7_digest_111 ?_
          refine r_callS (tX7_mixed G q (31 * (31 * y5 + z0) + z1) (bm (σ 15 0))) dX7_digest_112 svX7_mixed q310 rfl ⟨Nat.le_of_ble_eq_true rfl, Nat.le_of_ble_eq_true rfl⟩ (Nat.le_of_ble_eq_true rfl) ⟨Nat.le_of_ble_eq_true rfl, Nat.le_of_ble_eq_true rfl⟩ ?_
          rintro _ _ ⟨rfl, rfl⟩
          refine r_lstore_n (lv' := [(0, Rf G 0), (1, Lg (31 * (31 * (31 * y5 + z0) + z1) + (bm (σ 15 0)))), (3, I k)]) dX7_digest_115 rfl (Nat.le_of_ble_eq_true rfl) rfl ?_
          refine r_iconst dX7_digest_116 ?_
          refine r_istore_n (lv' := [(0, Rf G 0), (1, Lg (31 * (31 * (31 * y5 + z0) + z1) + (bm (σ 15 0)))), (3, I 0)]) dX7_digest_117 rfl (Nat.le_of_ble_eq_true rfl) rfl ?_
          have L118 : ∀ (mm : Nat) (i v : Int), (σ 15 0 - i).toNat = mm → (hi : 0 ≤ i ∧ i ≤ σ 15 0) → (hv : v = mxG (σ 16) (31 * (31 * (31 * y5 + z0) + z1) + bm (σ 15 0)) i.toNat) → Rn G mX7_digest (rmD 18 0 0) E0 (Zn G false SH P 0 0) false SH 0 0 118 [(0, Rf G 0), (1, Lg v), (3, I i)] [] q := by
            intro mm
            induction mm using Nat.strongRecOn with
            | _ mm ih118 =>
            intro i v hm118 hi hv
            refine r_iload_n dX7_digest_118 rfl rfl ?_
            refine r_aload_n dX7_digest_119 rfl rfl ?_
            refine r_getR (b := 15) dX7_digest_120 sh0 rfl (ci := 7) (j := 4) rfl (Nat.le_of_ble_eq_true rfl) ixX7 q137 rfl ?_
            refine r_getI (z := 0) dX7_digest_123 sh15 rfl (ci := 6) (j := 0) rfl (Nat.le_of_ble_eq_true rfl) rfl ixX6 q101 rfl (hv := (hqq.2.1).trans ((hp.2.1).trans ((hu.1.2.1).trans (hq.2.1)))) ?_
            refine r_icmp_ge (tgt := 149) dX7_digest_126 (by decide) (by omega) (fun hb5 => ?_) (fun hb5 => ?_)
            · skip
              refine r_lload_n dX7_digest_149 rfl rfl ?_
              exact r_lret dX7_digest_150 rfl (by rw [hP]; exact ⟨by rw [hv, show i = σ 15 0 by omega, dg_end hci (by rw [hy5, hy4, hy3, hy2, hy, show k = 9 by omega]; rfl) hz0 hz1 rfl], ((((((hq).tr hu.1)).tr hp)).tr hqq)⟩)
            · skip
              refine r_lload_n dX7_digest_129 rfl rfl ?_
              refine r_aload_n dX7_digest_130 rfl rfl ?_
              refine r_getR (b := 15) dX7_digest_131 sh0 rfl (ci := 7) (j := 4) rfl (Nat.le_of_ble_eq_true rfl) ixX7 q137 rfl ?_
              refine r_iload_n dX7_digest_134 rfl rfl ?_
              refine r_callV (tX6_codeAt G q i (by omega)) dX7_digest_135 svX6_codeAt q384 sh15 (ci := 6) rfl rfl rfl ⟨Nat.le_of_ble_eq_true rfl, Nat.le_of_ble_eq_true rfl⟩ (Nat.le_of_ble_eq_true rfl) ⟨Nat.le_of_ble_eq_true rfl, Nat.le_of_ble_eq_true rfl⟩ ?_
              rintro _ _ ⟨rfl, rfl⟩
              rw [show q 16 i = σ 16 i from (congrFun (hqq.1 16 (by decide)) i).trans ((congrFun (hp.1 16 (by decide)) i).trans ((congrFun (hu.1.1 16 (by decide)) i).trans (congrFun (hq.1 16 (by decide)) i)))]
              refine r_i2lb dX7_digest_138 ?_
              refine r_callS (tX7_mixed G q v (bm (σ 16 i))) dX7_digest_139 svX7_mixed q310 rfl ⟨Nat.le_of_ble_eq_true rfl, Nat.le_of_ble_eq_true rfl⟩ (Nat.le_of_ble_eq_true rfl) ⟨Nat.le_of_ble_eq_true rfl, Nat.le_of_ble_eq_true rfl⟩ ?_
              rintro _ _ ⟨rfl, rfl⟩
              refine r_lstore_n (lv' := [(0, Rf G 0), (1, Lg (31 * v + (bm (σ 16 i)))), (3, I i)]) dX7_digest_142 rfl (Nat.le_of_ble_eq_true rfl) rfl ?_
              refine r_iinc (lv' := [(0, Rf G 0), (1, Lg (31 * v + (bm (σ 16 i)))), (3, I (i + 1))]) dX7_digest_143 (Nat.le_of_ble_eq_true rfl) rfl rfl ?_
              refine r_goto (tgt := 118) dX7_digest_146 (by decide) ?_
              exact ih118 _ (by omega) (i + 1) _ rfl (by omega) (mxG_s (by omega) hv)
          exact L118 _ 0 _ rfl (by omega) (rfl)
      · skip
        refine r_lconst (z := 1) dX7_digest_74 rfl ?_
        refine r_goto (tgt := 79) dX7_digest_75 (by decide) ?_
        refine r_callS (tX7_mixed G q y5 1) dX7_digest_79 svX7_mixed q310 rfl ⟨Nat.le_of_ble_eq_true rfl, Nat.le_of_ble_eq_true rfl⟩ (Nat.le_of_ble_eq_true rfl) ⟨Nat.le_of_ble_eq_true rfl, Nat.le_of_ble_eq_true rfl⟩ ?_
        rintro _ _ ⟨rfl, rfl⟩
        refine r_lstore_n (lv' := [(0, Rf G 0), (1, Lg (31 * y5 + 1)), (3, I k)]) dX7_digest_82 rfl (Nat.le_of_ble_eq_true rfl) rfl ?_
        obtain ⟨z0, hz0, gz0⟩ : ∃ z0 : Int, z0 = (if σ 38 0 = 0 then (0 : Int) else 1) ∧ 31 * y5 + 1 = 31 * y5 + z0 := ⟨_, rfl, by first | rw [if_pos (by omega)] | rw [if_neg (by omega)]⟩
        rw [gz0]
        refine r_lload_n dX7_digest_83 rfl rfl ?_
        refine r_aload_n dX7_digest_84 rfl rfl ?_
        refine r_getR (b := 42) dX7_digest_85 sh0 rfl (ci := 7) (j := 7) rfl (Nat.le_of_ble_eq_true rfl) ixX7 q140 rfl ?_
        refine r_getI (z := 0) dX7_digest_88 sh42 rfl (ci := 4) (j := 0) rfl (Nat.le_of_ble_eq_true rfl) rfl ixX4 q130 rfl (hv := (congrFun (hqq.1 42 (by decide)) 0).trans ((congrFun (hp.1 42 (by decide)) 0).trans ((congrFun (hu.1.1 42 (by decide)) 0).trans (congrFun (hq.1 42 (by decide)) 0)))) ?_
        refine r_if_eq (tgt := 98) dX7_digest_91 (by decide) (by omega) (fun hb6 => ?_) (fun hb6 => ?_)
        · skip
          refine r_lconst (z := 0) dX7_digest_98 rfl ?_
          refine r_callS (tX7_mixed G q (31 * y5 + z0) 0) dX7_digest_99 svX7_mixed q310 rfl ⟨Nat.le_of_ble_eq_true rfl, Nat.le_of_ble_eq_true rfl⟩ (Nat.le_of_ble_eq_true rfl) ⟨Nat.le_of_ble_eq_true rfl, Nat.le_of_ble_eq_true rfl⟩ ?_
          rintro _ _ ⟨rfl, rfl⟩
          refine r_lstore_n (lv' := [(0, Rf G 0), (1, Lg (31 * (31 * y5 + z0) + 0)), (3, I k)]) dX7_digest_102 rfl (Nat.le_of_ble_eq_true rfl) rfl ?_
          obtain ⟨z1, hz1, gz1⟩ : ∃ z1 : Int, z1 = (if σ 42 0 = 0 then (0 : Int) else 1) ∧ 31 * (31 * y5 + z0) + 0 = 31 * (31 * y5 + z0) + z1 := ⟨_, rfl, by first | rw [if_pos (by omega)] | rw [if_neg (by omega)]⟩
          rw [gz1]
          refine r_lload_n dX7_digest_103 rfl rfl ?_
          refine r_aload_n dX7_digest_104 rfl rfl ?_
          refine r_getR (b := 15) dX7_digest_105 sh0 rfl (ci := 7) (j := 4) rfl (Nat.le_of_ble_eq_true rfl) ixX7 q137 rfl ?_
          refine r_getI (z := 0) dX7_digest_108 sh15 rfl (ci := 6) (j := 0) rfl (Nat.le_of_ble_eq_true rfl) rfl ixX6 q101 rfl (hv := (hqq.2.1).trans ((hp.2.1).trans ((hu.1.2.1).trans (hq.2.1)))) ?_
          refine r_i2lb dX7_digest_111 ?_
          refine r_callS (tX7_mixed G q (31 * (31 * y5 + z0) + z1) (bm (σ 15 0))) dX7_digest_112 svX7_mixed q310 rfl ⟨Nat.le_of_ble_eq_true rfl, Nat.le_of_ble_eq_true rfl⟩ (Nat.le_of_ble_eq_true rfl) ⟨Nat.le_of_ble_eq_true rfl, Nat.le_of_ble_eq_true rfl⟩ ?_
          rintro _ _ ⟨rfl, rfl⟩
          refine r_lstore_n (lv' := [(0, Rf G 0), (1, Lg (31 * (31 * (31 * y5 + z0) + z1) + (bm (σ 15 0)))), (3, I k)]) dX7_digest_115 rfl (Nat.le_of_ble_eq_true rfl) rfl ?_
          refine r_iconst dX7_digest_116 ?_
          refine r_istore_n (lv' := [(0, Rf G 0), (1, Lg (31 * (31 * (31 * y5 + z0) + z1) + (bm (σ 15 0)))), (3, I 0)]) dX7_digest_117 rfl (Nat.le_of_ble_eq_true rfl) rfl ?_
          have L118 : ∀ (mm : Nat) (i v : Int), (σ 15 0 - i).toNat = mm → (hi : 0 ≤ i ∧ i ≤ σ 15 0) → (hv : v = mxG (σ 16) (31 * (31 * (31 * y5 + z0) + z1) + bm (σ 15 0)) i.toNat) → Rn G mX7_digest (rmD 18 0 0) E0 (Zn G false SH P 0 0) false SH 0 0 118 [(0, Rf G 0), (1, Lg v), (3, I i)] [] q := by
            intro mm
            induction mm using Nat.strongRecOn with
            | _ mm ih118 =>
            intro i v hm118 hi hv
            refine r_iload_n dX7_digest_118 rfl rfl ?_
            refine r_aload_n dX7_digest_119 rfl rfl ?_
            refine r_getR (b := 15) dX7_digest_120 sh0 rfl (ci := 7) (j := 4) rfl (Nat.le_of_ble_eq_true rfl) ixX7 q137 rfl ?_
            refine r_getI (z := 0) dX7_digest_123 sh15 rfl (ci := 6) (j := 0) rfl (Nat.le_of_ble_eq_true rfl) rfl ixX6 q101 rfl (hv := (hqq.2.1).trans ((hp.2.1).trans ((hu.1.2.1).trans (hq.2.1)))) ?_
            refine r_icmp_ge (tgt := 149) dX7_digest_126 (by decide) (by omega) (fun hb7 => ?_) (fun hb7 => ?_)
            · skip
              refine r_lload_n dX7_digest_149 rfl rfl ?_
              exact r_lret dX7_digest_150 rfl (by rw [hP]; exact ⟨by rw [hv, show i = σ 15 0 by omega, dg_end hci (by rw [hy5, hy4, hy3, hy2, hy, show k = 9 by omega]; rfl) hz0 hz1 rfl], ((((((hq).tr hu.1)).tr hp)).tr hqq)⟩)
            · skip
              refine r_lload_n dX7_digest_129 rfl rfl ?_
              refine r_aload_n dX7_digest_130 rfl rfl ?_
              refine r_getR (b := 15) dX7_digest_131 sh0 rfl (ci := 7) (j := 4) rfl (Nat.le_of_ble_eq_true rfl) ixX7 q137 rfl ?_
              refine r_iload_n dX7_digest_134 rfl rfl ?_
              refine r_callV (tX6_codeAt G q i (by omega)) dX7_digest_135 svX6_codeAt q384 sh15 (ci := 6) rfl rfl rfl ⟨Nat.le_of_ble_eq_true rfl, Nat.le_of_ble_eq_true rfl⟩ (Nat.le_of_ble_eq_true rfl) ⟨Nat.le_of_ble_eq_true rfl, Nat.le_of_ble_eq_true rfl⟩ ?_
              rintro _ _ ⟨rfl, rfl⟩
              rw [show q 16 i = σ 16 i from (congrFun (hqq.1 16 (by decide)) i).trans ((congrFun (hp.1 16 (by decide)) i).trans ((congrFun (hu.1.1 16 (by decide)) i).trans (congrFun (hq.1 16 (by decide)) i)))]
              refine r_i2lb dX7_digest_138 ?_
              refine r_callS (tX7_mixed G q v (bm (σ 16 i))) dX7_digest_139 svX7_mixed q310 rfl ⟨Nat.le_of_ble_eq_true rfl, Nat.le_of_ble_eq_true rfl⟩ (Nat.le_of_ble_eq_true rfl) ⟨Nat.le_of_ble_eq_true rfl, Nat.le_of_ble_eq_true rfl⟩ ?_
              rintro _ _ ⟨rfl, rfl⟩
              refine r_lstore_n (lv' := [(0, Rf G 0), (1, Lg (31 * v + (bm (σ 16 i)))), (3, I i)]) dX7_digest_142 rfl (Nat.le_of_ble_eq_true rfl) rfl ?_
              refine r_iinc (lv' := [(0, Rf G 0), (1, Lg (31 * v + (bm (σ 16 i)))), (3, I (i + 1))]) dX7_digest_143 (Nat.le_of_ble_eq_true rfl) rfl rfl ?_
              refine r_goto (tgt := 118) dX7_digest_146 (by decide) ?_
              exact ih118 _ (by omega) (i + 1) _ rfl (by omega) (mxG_s (by omega) hv)
          exact L118 _ 0 _ rfl (by omega) (rfl)
        · skip
          refine r_lconst (z := 1) dX7_digest_94 rfl ?_
          refine r_goto (tgt := 99) dX7_digest_95 (by decide) ?_
          refine r_callS (tX7_mixed G q (31 * y5 + z0) 1) dX7_digest_99 svX7_mixed q310 rfl ⟨Nat.le_of_ble_eq_true rfl, Nat.le_of_ble_eq_true rfl⟩ (Nat.le_of_ble_eq_true rfl) ⟨Nat.le_of_ble_eq_true rfl, Nat.le_of_ble_eq_true rfl⟩ ?_
          rintro _ _ ⟨rfl, rfl⟩
          refine r_lstore_n (lv' := [(0, Rf G 0), (1, Lg (31 * (31 * y5 + z0) + 1)), (3, I k)]) dX7_digest_102 rfl (Nat.le_of_ble_eq_true rfl) rfl ?_
          obtain ⟨z1, hz1, gz1⟩ : ∃ z1 : Int, z1 = (if σ 42 0 = 0 then (0 : Int) else 1) ∧ 31 * (31 * y5 + z0) + 1 = 31 * (31 * y5 + z0) + z1 := ⟨_, rfl, by first | rw [if_pos (by omega)] | rw [if_neg (by omega)]⟩
          rw [gz1]
          refine r_lload_n dX7_digest_103 rfl rfl ?_
          refine r_aload_n dX7_digest_104 rfl rfl ?_
          refine r_getR (b := 15) dX7_digest_105 sh0 rfl (ci := 7) (j := 4) rfl (Nat.le_of_ble_eq_true rfl) ixX7 q137 rfl ?_
          refine r_getI (z := 0) dX7_digest_108 sh15 rfl (ci := 6) (j := 0) rfl (Nat.le_of_ble_eq_true rfl) rfl ixX6 q101 rfl (hv := (hqq.2.1).trans ((hp.2.1).trans ((hu.1.2.1).trans (hq.2.1)))) ?_
          refine r_i2lb dX7_digest_111 ?_
          refine r_callS (tX7_mixed G q (31 * (31 * y5 + z0) + z1) (bm (σ 15 0))) dX7_digest_112 svX7_mixed q310 rfl ⟨Nat.le_of_ble_eq_true rfl, Nat.le_of_ble_eq_true rfl⟩ (Nat.le_of_ble_eq_true rfl) ⟨Nat.le_of_ble_eq_true rfl, Nat.le_of_ble_eq_true rfl⟩ ?_
          rintro _ _ ⟨rfl, rfl⟩
          refine r_lstore_n (lv' := [(0, Rf G 0), (1, Lg (31 * (31 * (31 * y5 + z0) + z1) + (bm (σ 15 0)))), (3, I k)]) dX7_digest_115 rfl (Nat.le_of_ble_eq_true rfl) rfl ?_
          refine r_iconst dX7_digest_116 ?_
          refine r_istore_n (lv' := [(0, Rf G 0), (1, Lg (31 * (31 * (31 * y5 + z0) + z1) + (bm (σ 15 0)))), (3, I 0)]) dX7_digest_117 rfl (Nat.le_of_ble_eq_true rfl) rfl ?_
          have L118 : ∀ (mm : Nat) (i v : Int), (σ 15 0 - i).toNat = mm → (hi : 0 ≤ i ∧ i ≤ σ 15 0) → (hv : v = mxG (σ 16) (31 * (31 * (31 * y5 + z0) + z1) + bm (σ 15 0)) i.toNat) → Rn G mX7_digest (rmD 18 0 0) E0 (Zn G false SH P 0 0) false SH 0 0 118 [(0, Rf G 0), (1, Lg v), (3, I i)] [] q := by
            intro mm
            induction mm using Nat.strongRecOn with
            | _ mm ih118 =>
            intro i v hm118 hi hv
            refine r_iload_n dX7_digest_118 rfl rfl ?_
            refine r_aload_n dX7_digest_119 rfl rfl ?_
            refine r_getR (b := 15) dX7_digest_120 sh0 rfl (ci := 7) (j := 4) rfl (Nat.le_of_ble_eq_true rfl) ixX7 q137 rfl ?_
            refine r_getI (z := 0) dX7_digest_123 sh15 rfl (ci := 6) (j := 0) rfl (Nat.le_of_ble_eq_true rfl) rfl ixX6 q101 rfl (hv := (hqq.2.1).trans ((hp.2.1).trans ((hu.1.2.1).trans (hq.2.1)))) ?_
            refine r_icmp_ge (tgt := 149) dX7_digest_126 (by decide) (by omega) (fun hb8 => ?_) (fun hb8 => ?_)
            · skip
              refine r_lload_n dX7_digest_149 rfl rfl ?_
              exact r_lret dX7_digest_150 rfl (by rw [hP]; exact ⟨by rw [hv, show i = σ 15 0 by omega, dg_end hci (by rw [hy5, hy4, hy3, hy2, hy, show k = 9 by omega]; rfl) hz0 hz1 rfl], ((((((hq).tr hu.1)).tr hp)).tr hqq)⟩)
            · skip
              refine r_lload_n dX7_digest_129 rfl rfl ?_
              refine r_aload_n dX7_digest_130 rfl rfl ?_
              refine r_getR (b := 15) dX7_digest_131 sh0 rfl (ci := 7) (j := 4) rfl (Nat.le_of_ble_eq_true rfl) ixX7 q137 rfl ?_
              refine r_iload_n dX7_digest_134 rfl rfl ?_
              refine r_callV (tX6_codeAt G q i (by omega)) dX7_digest_135 svX6_codeAt q384 sh15 (ci := 6) rfl rfl rfl ⟨Nat.le_of_ble_eq_true rfl, Nat.le_of_ble_eq_true rfl⟩ (Nat.le_of_ble_eq_true rfl) ⟨Nat.le_of_ble_eq_true rfl, Nat.le_of_ble_eq_true rfl⟩ ?_
              rintro _ _ ⟨rfl, rfl⟩
              rw [show q 16 i = σ 16 i from (congrFun (hqq.1 16 (by decide)) i).trans ((congrFun (hp.1 16 (by decide)) i).trans ((congrFun (hu.1.1 16 (by decide)) i).trans (congrFun (hq.1 16 (by decide)) i)))]
              refine r_i2lb dX7_digest_138 ?_
              refine r_callS (tX7_mixed G q v (bm (σ 16 i))) dX7_digest_139 svX7_mixed q310 rfl ⟨Nat.le_of_ble_eq_true rfl, Nat.le_of_ble_eq_true rfl⟩ (Nat.le_of_ble_eq_true rfl) ⟨Nat.le_of_ble_eq_true rfl, Nat.le_of_ble_eq_true rfl⟩ ?_
              rintro _ _ ⟨rfl, rfl⟩
              refine r_lstore_n (lv' := [(0, Rf G 0), (1, Lg (31 * v + (bm (σ 16 i)))), (3, I i)]) dX7_digest_142 rfl (Nat.le_of_ble_eq_true rfl) rfl ?_
              refine r_iinc (lv' := [(0, Rf G 0), (1, Lg (31 * v + (bm (σ 16 i)))), (3, I (i + 1))]) dX7_digest_143 (Nat.le_of_ble_eq_true rfl) rfl rfl ?_
              refine r_goto (tgt := 118) dX7_digest_146 (by decide) ?_
              exact ih118 _ (by omega) (i + 1) _ rfl (by omega) (mxG_s (by omega) hv)
          exact L118 _ 0 _ rfl (by omega) (rfl)
    · skip
      refine r_lload_n dX7_digest_12 rfl rfl ?_
      refine r_aload_n dX7_digest_13 rfl rfl ?_
      refine r_iload_n dX7_digest_14 rfl rfl ?_
      refine r_callV (tX7_counted G s k ((hq.ci hci)) (by omega)) dX7_digest_15 svX7_counted q294 sh0 (ci := 7) rfl rfl rfl ⟨Nat.le_of_ble_eq_true rfl, Nat.le_of_ble_eq_true rfl⟩ (Nat.le_of_ble_eq_true rfl) ⟨Nat.le_of_ble_eq_true rfl, Nat.le_of_ble_eq_true rfl⟩ ?_
      rintro _ t ⟨rfl, ht⟩
      rw [show s 18 0 = σ 18 0 from congrFun (hq.1 18 (by decide)) 0]
      rw [stC_c (hq.1 1 (by decide)) (hq.1 2 (by decide)) (hq.1 3 (by decide))]
      refine r_i2lb dX7_digest_18 ?_
      refine r_callS (tX7_mixed G t y (bm (cnF (stC σ 1) (σ 18 0) k))) dX7_digest_19 svX7_mixed q310 rfl ⟨Nat.le_of_ble_eq_true rfl, Nat.le_of_ble_eq_true rfl⟩ (Nat.le_of_ble_eq_true rfl) ⟨Nat.le_of_ble_eq_true rfl, Nat.le_of_ble_eq_true rfl⟩ ?_
      rintro _ _ ⟨rfl, rfl⟩
      refine r_lstore_n (lv' := [(0, Rf G 0), (1, Lg (31 * y + (bm (cnF (stC σ 1) (σ 18 0) k)))), (3, I k)]) dX7_digest_22 rfl (Nat.le_of_ble_eq_true rfl) rfl ?_
      refine r_iinc (lv' := [(0, Rf G 0), (1, Lg (31 * y + (bm (cnF (stC σ 1) (σ 18 0) k)))), (3, I (k + 1))]) dX7_digest_23 (Nat.le_of_ble_eq_true rfl) rfl rfl ?_
      refine r_goto (tgt := 6) dX7_digest_26 (by decide) ?_
      exact ih6 _ (by omega) (k + 1) _ _ rfl (by omega) (hq.tr ht) (mxG_s (by omega) hy)
  exact L6 _ 0 _ _ rfl (by omega) (Qs.refl σ) (rfl)
