variable {Ω : List Ob}

theorem load_end {σ s t u : Sg} (hci : CI σ) (hp : ReadP σ s) (hk : TlC σ s) (hs : SaveP s t) (hn : Nc t u) (h0 : u 1 0 = s 15 3 + 1) (h1 : u 1 1 = s 15 4 + 1) (h2 : u 1 2 = σ 1 2) (h3 : u 1 3 = σ 1 3) (h4 : u 1 4 = σ 1 4) (h5 : u 1 5 = σ 1 5)
    (hT : u 2 = ldL (10 * (s 15 3 + 1)) (s 15 4 + 1) (s 17) (σ 2)) (h3W : u 3 = σ 3) : OkP σ (oLoad (absC σ)) (some (I (11 * (s 15 3 + 1) + (s 15 4 + 1)))) (up u 15 0 0) := by
  have hT9 : nT (stC σ 1) = σ 2 := hci.T
  have hO9 := OkS_now hci
  obtain ⟨p, hA, hB, hr⟩ := load_is hci hp hk
  obtain ⟨e1, e2, e3, e4, -, hg⟩ := hA
  have hB2 := hB
  simp only [AB, qs] at hB2
  have e1 : s 15 3 = p.1 := e1
  have e2 : s 15 4 = p.2.1 := e2
  have e3 : s 15 5 = p.2.2.1 := e3
  have e4 : s 15 6 = p.2.2.2.1 := e4
  have ht := hk.2
  have key : ∀ r c, 0 ≤ r → r < s 15 3 + 1 → 0 ≤ c → c < s 15 4 + 1 → s 17 (10 * r + c) = p.2.2.2.2.2 (10 * r + c) ∧ 0 ≤ s 17 (10 * r + c) ∧ s 17 (10 * r + c) ≤ 9999 := fun r c a b d e => by
    apply hg r c
    show (0 ≤ r ∧ r < s 15 3 ∧ 0 ≤ c ∧ c < s 15 5) ∨ (r = s 15 3 ∧ 0 ≤ c ∧ (c < s 15 4 ∨ (c = s 15 4 ∧ 0 < s 15 6)))
    omega
  have hx : ldL (10 * (s 15 3 + 1)) (s 15 4 + 1) (s 17) (σ 2) = ldL (10 * (p.1 + 1)) (p.2.1 + 1) p.2.2.2.2.2 (σ 2) := by
    rw [ldL_c (fun r c a b d e => (key r c a b d e).1), e1, e2]
  have hb : ∀ j, 0 ≤ ldL (10 * (s 15 3 + 1)) (s 15 4 + 1) (s 17) (σ 2) j ∧ ldL (10 * (s 15 3 + 1)) (s 15 4 + 1) (s 17) (σ 2) j ≤ 9999 := fun j => by
    unfold ldL
    by_cases q : (0 ≤ j ∧ j < 10 * (s 15 3 + 1)) ∧ j % 10 < s 15 4 + 1
    · rw [if_pos q]
      have := key (j / 10) (j % 10) (by omega) (by omega) (by omega) q.2
      rw [show 10 * (j / 10) + j % 10 = j by omega] at this
      exact this.2
    · rw [if_neg q]; exact hci.us.2.2.2.1 j
  have hz : ∀ j, (j < 0 ∨ 100 ≤ j) → ldL (10 * (s 15 3 + 1)) (s 15 4 + 1) (s 17) (σ 2) j = 0 := fun j hj => by
    unfold ldL
    rw [if_neg (by omega)]
    exact hci.2.2.2.2.1 j hj
  rw [hx] at hT hb hz
  have hD : Done σ u (svA (absC σ) (p.1 + 1, p.2.1 + 1, σ 1 2, σ 1 3, σ 1 4, σ 1 5, ldL (10 * (p.1 + 1)) (p.2.1 + 1) p.2.2.2.2.2 (σ 2), nW (stC σ 1))) :=
    aft_k hci (Qs.rd hp) hs hn _ (by rw [h0, e1]) (by rw [h1, e2]) h2 h3 h4 h5 hT (by rw [h3W]; rfl) ⟨by show 1 ≤ p.1 + 1 ∧ p.1 + 1 ≤ 10; omega, by show 1 ≤ p.2.1 + 1 ∧ p.2.1 + 1 ≤ 10; omega, hO9.2.2.1, hb, hz, hO9.2.2.2.2.2⟩
  have ho : oLoad (absC σ) = (0, 11 * (p.1 + 1) + (p.2.1 + 1), setB (svA (absC σ) (p.1 + 1, p.2.1 + 1, σ 1 2, σ 1 3, σ 1 4, σ 1 5, ldL (10 * (p.1 + 1)) (p.2.1 + 1) p.2.2.2.2.2 (σ 2), nW (stC σ 1))) []) := by
    unfold oLoad
    rw [hr]
    show (if _ then _ else _) = _
    rw [if_pos ⟨by rw [← e4]; exact ht.1, by rw [← e1, ← e2, ← e3]; exact ht.2⟩]
    show (_, _, setB (svA (absC σ) (_, _, _, _, _, _, ldL _ _ _ (nT (stC σ 1)), _)) []) = _
    rw [hT9]
    rfl
  rw [ho]
  refine ⟨rfl, by rw [e1, e2], Done.tr hD ?_⟩
  have h := buf_done (σ := u) (τ := up u 15 0 0) (l := []) hD.1 (fun a h5 h6 => by rw [up_ne h5]) (by rw [up_eq]; omega) (by rw [up_ne (by decide), up_eq]; rfl) (fun d hd => by cases hd)
  rw [hD.2.1] at h
  exact h

set_option maxHeartbeats 1000000 in
set_option maxRecDepth 100000 in
theorem tX7_load (G : GT) (σ : Sg)  (hci : CI σ) : CtX G mX7_load 6 (SH Ω) [Rf G 0] σ (OkP σ (oLoad (absC σ))) (ExP σ (oLoad (absC σ)) xE1 xE3) := by
  obtain ⟨P, hP⟩ : ∃ P : Option Value → Sg → Prop, P = (OkP σ (oLoad (absC σ))) := ⟨_, rfl⟩
  obtain ⟨X, hX⟩ : ∃ X : String → Sg → Prop, X = (ExP σ (oLoad (absC σ)) xE1 xE3) := ⟨_, rfl⟩
  rw [← hP, ← hX]
  refine ctx_of (lv := [(0, Rf G 0)]) (by decide +kernel) (Nat.le_of_ble_eq_true rfl) rfl ?_
  have hci0 := hci.us
  obtain ⟨hR, hC, hn, hT, hwt, hp6, h11, h13, hh, hl, hc⟩ := hci0
  have hT9 : nT (stC σ 1) = σ 2 := hci.T
  have hO9 := OkS_now hci
  refine r_aload_n dX7_load_0 rfl rfl ?_
  refine r_getR (b := 15) dX7_load_1 sh0 rfl (ci := 7) (j := 4) rfl (Nat.le_of_ble_eq_true rfl) ixX7 q135 rfl ?_
  refine r_callV (tX6_tellsTable G σ  (hci.us.2.2.2.2.2.2.2.2.2.1) (hci.us.2.2.2.2.2.2.2.2.2.2)) dX7_load_4 svX6_tellsTable q409 sh15 (ci := 6) rfl rfl rfl ⟨Nat.le_of_ble_eq_true rfl, Nat.le_of_ble_eq_true rfl⟩ (Nat.le_of_ble_eq_true rfl) ⟨Nat.le_of_ble_eq_true rfl, Nat.le_of_ble_eq_true rfl⟩ ?_
  rintro _ s ⟨hp, (⟨hk, rfl⟩ | ⟨hk, rfl⟩)⟩
  · skip
    refine r_if_ne (tgt := 20) dX7_load_7 (by decide) (by omega) (fun hb1 => ?_) (fun hb1 => ?_)
    · skip
      refine r_aload_n dX7_load_20 rfl rfl ?_
      refine r_getR (b := 18) dX7_load_21 sh0 rfl (ci := 7) (j := 5) rfl (Nat.le_of_ble_eq_true rfl) ixX7 q136 rfl ?_
      refine r_aload_n dX7_load_24 rfl rfl ?_
      refine r_getR (b := 1) dX7_load_25 sh0 rfl (ci := 7) (j := 0) rfl (Nat.le_of_ble_eq_true rfl) ixX7 q131 rfl ?_
      refine r_callV (tX2_save G s  (((Qs.rd hp).ci hci).us.2.2.2.2.2.2.2.2.1) (((Qs.rd hp).ci hci).us.2.2.1.2)) dX7_load_28 svX2_save q195 sh18 (ci := 2) rfl rfl rfl ⟨Nat.le_of_ble_eq_true rfl, Nat.le_of_ble_eq_true rfl⟩ (Nat.le_of_ble_eq_true rfl) ⟨Nat.le_of_ble_eq_true rfl, Nat.le_of_ble_eq_true rfl⟩ ?_
      rintro _ t ⟨rfl, hs⟩
      refine r_aload_n dX7_load_31 rfl rfl ?_
      refine r_getR (b := 1) dX7_load_32 sh0 rfl (ci := 7) (j := 0) rfl (Nat.le_of_ble_eq_true rfl) ixX7 q131 rfl ?_
      refine r_aload_n dX7_load_35 rfl rfl ?_
      refine r_getR (b := 15) dX7_load_36 sh0 rfl (ci := 7) (j := 4) rfl (Nat.le_of_ble_eq_true rfl) ixX7 q135 rfl ?_
      refine r_callV (tX6_rowsTold G t ) dX7_load_39 svX6_rowsTold q438 sh15 (ci := 6) rfl rfl rfl ⟨Nat.le_of_ble_eq_true rfl, Nat.le_of_ble_eq_true rfl⟩ (Nat.le_of_ble_eq_true rfl) ⟨Nat.le_of_ble_eq_true rfl, Nat.le_of_ble_eq_true rfl⟩ ?_
      rintro _ _ ⟨rfl, rfl⟩
      rw [show t 15 3 = s 15 3 from congrFun (hs.1 15 (by decide) (by decide)) 3]
      refine r_putI (z := 0) tyX5 dX7_load_42 sh1 rfl (ci := 5) (j := 0) rfl (Nat.le_of_ble_eq_true rfl) rfl tyX5_ok nmX5 ixX5 q35 rfl rfl rfl ?_
      refine r_aload_n dX7_load_45 rfl rfl ?_
      refine r_getR (b := 1) dX7_load_46 sh0 rfl (ci := 7) (j := 0) rfl (Nat.le_of_ble_eq_true rfl) ixX7 q131 rfl ?_
      refine r_aload_n dX7_load_49 rfl rfl ?_
      refine r_getR (b := 15) dX7_load_50 sh0 rfl (ci := 7) (j := 4) rfl (Nat.le_of_ble_eq_true rfl) ixX7 q135 rfl ?_
      refine r_callV (tX6_columnsTold G (up t 1 0 ((s 15 3) + 1)) ) dX7_load_53 svX6_columnsTold q442 sh15 (ci := 6) rfl rfl rfl ⟨Nat.le_of_ble_eq_true rfl, Nat.le_of_ble_eq_true rfl⟩ (Nat.le_of_ble_eq_true rfl) ⟨Nat.le_of_ble_eq_true rfl, Nat.le_of_ble_eq_true rfl⟩ ?_
      rintro _ _ ⟨rfl, rfl⟩
      rw [show (up t 1 0 ((s 15 3) + 1)) 15 4 = s 15 4 from (congrFun (up_ne (by decide)) 4).trans (congrFun (hs.1 15 (by decide) (by decide)) 4)]
      refine r_putI (z := 1) tyX5 dX7_load_56 sh1 rfl (ci := 5) (j := 1) rfl (Nat.le_of_ble_eq_true rfl) rfl tyX5_ok nmX5 ixX5 q39 rfl rfl rfl ?_
      obtain ⟨u0, hu9⟩ : ∃ z : Sg, z = up (up t 1 0 ((s 15 3) + 1)) 1 1 ((s 15 4) + 1) := ⟨_, rfl⟩
      rw [← hu9]
      have hu0 : ∀ o, o ≠ 1 → u0 o = t o := fun o h => by rw [hu9, up_ne h, up_ne h]
      have u10 : u0 1 0 = s 15 3 + 1 := by rw [hu9, up_nj (by decide), up_eq]
      have u11 : u0 1 1 = s 15 4 + 1 := by rw [hu9, up_eq]
      have hA := hp.2.2.2
      simp only [AB, qs] at hA
      have t2 : t 2 = σ 2 := by rw [hs.1 2 (by decide) (by decide), (Qs.rd hp).1 2 (by decide)]
      refine r_iconst dX7_load_59 ?_
      refine r_istore_n (lv' := [(0, Rf G 0), (1, I 0)]) dX7_load_60 rfl (Nat.le_of_ble_eq_true rfl) rfl ?_
      have L61 : ∀ (mm : Nat) (r : Int) (u : Sg), (s 15 3 + 1 - r).toNat = mm → (hr : 0 ≤ r ∧ r ≤ s 15 3 + 1) → (hu : ∀ o, o ≠ 2 → u o = u0 o) → (hu2 : u 2 = ldL (10 * r) (s 15 4 + 1) (s 17) (σ 2)) → Rn G mX7_load (rmD 6 1 6) (EX G) (Zx G (SH Ω) P X) false (SH Ω) 0 0 61 [(0, Rf G 0), (1, I r)] [] u := by
        intro mm
        induction mm using Nat.strongRecOn with
        | _ mm ih61 =>
        intro r u hm61 hr hu hu2
        refine r_iload_n dX7_load_61 rfl rfl ?_
        refine r_aload_n dX7_load_62 rfl rfl ?_
        refine r_getR (b := 1) dX7_load_63 sh0 rfl (ci := 7) (j := 0) rfl (Nat.le_of_ble_eq_true rfl) ixX7 q131 rfl ?_
        refine r_getI (z := 0) dX7_load_66 sh1 rfl (ci := 5) (j := 0) rfl (Nat.le_of_ble_eq_true rfl) rfl ixX5 q35 rfl (hv := (congrFun (hu 1 (by decide)) 0).trans (u10)) ?_
        refine r_icmp_ge (tgt := 115) dX7_load_69 (by decide) (by omega) (fun hb2 => ?_) (fun hb2 => ?_)
        · skip
          refine r_aload_n dX7_load_115 rfl rfl ?_
          refine r_getR (b := 15) dX7_load_116 sh0 rfl (ci := 7) (j := 4) rfl (Nat.le_of_ble_eq_true rfl) ixX7 q135 rfl ?_
          refine r_callV (tX6_clear G u ) dX7_load_119 svX6_clear q450 sh15 (ci := 6) rfl rfl rfl ⟨Nat.le_of_ble_eq_true rfl, Nat.le_of_ble_eq_true rfl⟩ (Nat.le_of_ble_eq_true rfl) ⟨Nat.le_of_ble_eq_true rfl, Nat.le_of_ble_eq_true rfl⟩ ?_
          rintro _ _ ⟨rfl, rfl⟩
          refine r_aload_n dX7_load_122 rfl rfl ?_
          refine r_getR (b := 1) dX7_load_123 sh0 rfl (ci := 7) (j := 0) rfl (Nat.le_of_ble_eq_true rfl) ixX7 q131 rfl ?_
          refine r_callV (tX5_sizeCode G (up u 15 0 0) ) dX7_load_126 svX5_sizeCode q387 sh1 (ci := 5) rfl rfl rfl ⟨Nat.le_of_ble_eq_true rfl, Nat.le_of_ble_eq_true rfl⟩ (Nat.le_of_ble_eq_true rfl) ⟨Nat.le_of_ble_eq_true rfl, Nat.le_of_ble_eq_true rfl⟩ ?_
          rintro _ _ ⟨rfl, rfl⟩
          rw [show (up u 15 0 0) 1 0 = s 15 3 + 1 from (congrFun (up_ne (by decide)) 0).trans ((congrFun (hu 1 (by decide)) 0).trans (u10))]
          rw [show (up u 15 0 0) 1 1 = s 15 4 + 1 from (congrFun (up_ne (by decide)) 1).trans ((congrFun (hu 1 (by decide)) 1).trans (u11))]
          exact r_xl (r_widen (Nat.le_of_ble_eq_true rfl) (Nat.le_of_ble_eq_true rfl) (r_iret dX7_load_129 rfl (by rw [hP]; exact load_end hci hp hk hs ⟨fun o h => by rw [hu o (by omega), hu0 o (by omega)], by rw [hu 15 (by decide), hu0 15 (by decide)], fun h => by unfold ScC; rw [hu 6 (by decide), hu 11 (by decide), hu 13 (by decide), hu0 6 (by decide), hu0 11 (by decide), hu0 13 (by decide)]; exact h⟩ (by rw [hu 1 (by decide), u10]) (by rw [hu 1 (by decide), u11]) (by rw [hu 1 (by decide), hu9, up_nj (by decide), up_nj (by decide), hs.1 1 (by decide) (by decide), (Qs.rd hp).1 1 (by decide)]) (by rw [hu 1 (by decide), hu9, up_nj (by decide), up_nj (by decide), hs.1 1 (by decide) (by decide), (Qs.rd hp).1 1 (by decide)]) (by rw [hu 1 (by decide), hu9, up_nj (by decide), up_nj (by decide), hs.1 1 (by decide) (by decide), (Qs.rd hp).1 1 (by decide)]) (by rw [hu 1 (by decide), hu9, up_nj (by decide), up_nj (by decide), hs.1 1 (by decide) (by decide), (Qs.rd hp).1 1 (by decide)]) (by rw [hu2, show r = s 15 3 + 1 by omega]) (by rw [hu 3 (by decide), hu0 3 (by decide), hs.1 3 (by decide) (by decide), (Qs.rd hp).1 3 (by decide)]))))
        · skip
          refine r_iconst dX7_load_72 ?_
          refine r_istore_n (lv' := [(0, Rf G 0), (1, I r), (2, I 0)]) dX7_load_73 rfl (Nat.le_of_ble_eq_true rfl) rfl ?_
          have L74 : ∀ (mm : Nat) (k : Int) (v : Sg), (s 15 4 + 1 - k).toNat = mm → (hk9 : 0 ≤ k ∧ k ≤ s 15 4 + 1) → (hv : ∀ o, o ≠ 2 → v o = u0 o) → (hv2 : v 2 = ldL (10 * r + k) (s 15 4 + 1) (s 17) (σ 2)) → Rn G mX7_load (rmD 6 1 6) (EX G) (Zx G (SH Ω) P X) false (SH Ω) 0 0 74 [(0, Rf G 0), (1, I r), (2, I k)] [] v := by
            intro mm
            induction mm using Nat.strongRecOn with
            | _ mm ih74 =>
            intro k v hm74 hk9 hv hv2
            refine r_iload_n dX7_load_74 rfl rfl ?_
            refine r_aload_n dX7_load_75 rfl rfl ?_
            refine r_getR (b := 1) dX7_load_76 sh0 rfl (ci := 7) (j := 0) rfl (Nat.le_of_ble_eq_true rfl) ixX7 q131 rfl ?_
            refine r_getI (z := 1) dX7_load_79 sh1 rfl (ci := 5) (j := 1) rfl (Nat.le_of_ble_eq_true rfl) rfl ixX5 q39 rfl (hv := (congrFun (hv 1 (by decide)) 1).trans (u11)) ?_
            refine r_icmp_ge (tgt := 109) dX7_load_82 (by decide) (by omega) (fun hb3 => ?_) (fun hb3 => ?_)
            · skip
              refine r_iinc (lv' := [(0, Rf G 0), (1, I (r + 1)), (2, I k)]) dX7_load_109 (Nat.le_of_ble_eq_true rfl) rfl rfl ?_
              refine r_goto (tgt := 61) dX7_load_112 (by decide) ?_
              refine r_sub [0, 1] rfl ?_
              exact ih61 _ (by omega) (r + 1) _ rfl (by omega) (hv) (by rw [hv2, show k = s 15 4 + 1 by omega]; exact ldL_k (by omega))
            · skip
              refine r_aload_n dX7_load_85 rfl rfl ?_
              refine r_getR (b := 1) dX7_load_86 sh0 rfl (ci := 7) (j := 0) rfl (Nat.le_of_ble_eq_true rfl) ixX7 q131 rfl ?_
              refine r_iload_n dX7_load_89 rfl rfl ?_
              refine r_iload_n dX7_load_90 rfl rfl ?_
              refine r_aload_n dX7_load_91 rfl rfl ?_
              refine r_getR (b := 15) dX7_load_92 sh0 rfl (ci := 7) (j := 4) rfl (Nat.le_of_ble_eq_true rfl) ixX7 q135 rfl ?_
              refine r_iload_n dX7_load_95 rfl rfl ?_
              refine r_iload_n dX7_load_96 rfl rfl ?_
              refine r_callV (tX6_numberTold G v r k (by omega)) dX7_load_97 svX6_numberTold q446 sh15 (ci := 6) rfl rfl rfl ⟨Nat.le_of_ble_eq_true rfl, Nat.le_of_ble_eq_true rfl⟩ (Nat.le_of_ble_eq_true rfl) ⟨Nat.le_of_ble_eq_true rfl, Nat.le_of_ble_eq_true rfl⟩ ?_
              rintro _ _ ⟨rfl, rfl⟩
              rw [show v 17 (10 * r + k) = s 17 (10 * r + k) from (congrFun (hv 17 (by decide)) (10 * r + k)).trans ((congrFun (hu0 17 (by decide)) (10 * r + k)).trans (congrFun (hs.1 17 (by decide) (by decide)) (10 * r + k)))]
              refine r_callV (tX5_setNumber G v r k (s 17 (10 * r + k)) (by omega)) dX7_load_100 svX5_setNumber q213 sh1 (ci := 5) rfl rfl rfl ⟨Nat.le_of_ble_eq_true rfl, Nat.le_of_ble_eq_true rfl⟩ (Nat.le_of_ble_eq_true rfl) ⟨Nat.le_of_ble_eq_true rfl, Nat.le_of_ble_eq_true rfl⟩ ?_
              rintro _ _ ⟨rfl, rfl⟩
              refine r_iinc (lv' := [(0, Rf G 0), (1, I r), (2, I (k + 1))]) dX7_load_103 (Nat.le_of_ble_eq_true rfl) rfl rfl ?_
              refine r_goto (tgt := 74) dX7_load_106 (by decide) ?_
              exact ih74 _ (by omega) (k + 1) _ rfl (by omega) (fun o ho => by rw [up_ne ho]; exact hv o ho) (by rw [fu_up, hv2, ldL_s (by omega) (by omega) rfl, show 10 * r + (k + 1) = 10 * r + k + 1 by omega])
          exact L74 _ 0 _ rfl (by omega) (hu) (by rw [hu2, Int.add_zero])
      exact L61 _ 0 _ rfl (by omega) (fun _ _ => rfl) (by rw [hu0 2 (by decide), t2]; exact ldL_0)
    · skip
      exact absurd hb1 (by omega)
  · skip
    refine r_if_ne (tgt := 20) dX7_load_7 (by decide) (by omega) (fun hb4 => ?_) (fun hb4 => ?_)
    · skip
      exact absurd hb4 (by omega)
    · skip
      exact r_throw xg1 xn1 rfl q187 q12 stl198 xf1 xo1 dX7_load_10 dX7_load_13 dX7_load_14 dX7_load_16 dX7_load_19 (Nat.le_of_ble_eq_true rfl) (Nat.le_of_ble_eq_true rfl) (Nat.le_of_ble_eq_true rfl) (Nat.le_of_ble_eq_true rfl) (by rw [hX]; exact by rw [load_no hci hp hk]; exact ⟨Or.inl ⟨rfl, rfl⟩, (Qs.rd hp).done hci⟩)
