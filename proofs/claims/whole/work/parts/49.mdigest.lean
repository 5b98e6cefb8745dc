
theorem qnat0 : (.native (⟨RJxe99ae, "doubleToRawLongBits", "(D)J"⟩ : MethodName) : Cond) ∈ TBG := tbt_6 (List.mem_of_getElem? (i := 1) rfl) rfl
section D2L
variable {G : GT} {M : MI} {R : Room} {E : ET} {Z : ZT} {ex : Bool} {sh : List Ob} {k n : Nat} {pc : Nat} {lv : List (Nat × Value)} {st : List Value} {σ : Sg}
theorem r_d2lb {b : UInt64} {idx : Nat} (hdg : decode M.2.1 pc = .ok (.invokestatic idx, 3)) (hl : Cond.methodLink M.1.cls idx (⟨RJxe99ae, "doubleToRawLongBits", "(D)J"⟩ : MethodName) ∈ TBG) (hf : 1 ≤ R.frames) (hr : (st.map fun v => v.category).sum + 15 ≤ R.locals)
    (kk : Rn G M R E Z ex sh k n (pc + 3) lv (Lg (dbv b) :: st) σ) : Rn G M R E Z ex sh k n pc lv (.double b :: st) σ := by
  intro p l e s m args below meth c H locs ls F
  refine vn_d2l F.1 F.2.1 (F.hl.1.trans F.2.2.1.symm).symm F.own (F.wd _ hl) (F.wd _ qnat0) (F.wd _ q919) (F.wd _ q17) hf hr hdg ?_
  rw [← dbv_L]
  exact kk p l e s m args below meth c H locs ls F
end D2L
theorem sh_nn {σ : Sg} (hmi : IM σ) : Op.cmpValue (FP.dcmp (shF (st0 (σ 47))) (shF (st0 (σ 47)))) .l = Int32.ofInt 0 := by
  have hu := hmi.us
  by_cases h : Kp (σ 47 0) (σ 47 1) (tM (σ 47))
  · obtain ⟨i, -, hb⟩ := b_rc hu.1 hu.2.1 (LW1_bd (T := tM (σ 47)) hu.1 hu.2.1)
    rw [shM_y h]
    exact (bOK_u hb).2.1
  · rw [shM_n h]; decide +kernel
theorem sl_flM {σ : Sg} {k : Int} (h : σ 50 k = 0 ∨ σ 50 k = 1) : flO (slM σ k) = bm (σ 50 k) := by
  unfold slM
  rcases h with h | h
  · rw [h]; rfl
  · rw [h]; rfl
theorem dgM_end {σ : Sg} (hmi : IM σ) {h5 : Int} (hs : h5 = 31 * hwF (fun i => σ 47 (6 + i)) (σ 47 5) (hpF (st0 (σ 47)) (σ 47 0) (σ 47 1) (mxC (σ 47 1) (tM (σ 47)) (mxG (cnF (st0 (σ 47)) (σ 46 2)) 3613 9) (10 * σ 47 0).toNat)) + dbv (shF (st0 (σ 47)))) :
    mxG (σ 51) (31 * (31 * (31 * h5 + bm (σ 50 0)) + bm (σ 50 1)) + bm (σ 46 6)) (σ 46 6).toNat = dgF (absM σ) := by
  have hu := hmi.us
  have hl : ((hiM σ).length : Int) = σ 46 2 := by unfold hiM; rw [List.length_map, List.length_range]; have := hmi.2.1; omega
  have hb : ((bfC (σ 51) (σ 46 6)).length : Int) = σ 46 6 := bfC_len hmi.2.2.1.1
  have e1 : dgS (st0 (σ 47)) ((hiM σ).length : Int) = h5 := by
    rw [hl, hs]
    have e2 : hwF (nW (st0 (σ 47))) (st0 (σ 47)).2.2.1 (hpF (st0 (σ 47)) (st0 (σ 47)).1 (st0 (σ 47)).2.1 (mxC (st0 (σ 47)).2.1 (nT (st0 (σ 47))) (mxG (cnF (st0 (σ 47)) (σ 46 2)) 3613 9) (10 * (st0 (σ 47)).1).toNat)) = hwF (fun i => σ 47 (6 + i)) (σ 47 5) (hpF (st0 (σ 47)) (σ 47 0) (σ 47 1) (mxC (σ 47 1) (tM (σ 47)) (mxG (cnF (st0 (σ 47)) (σ 46 2)) 3613 9) (10 * σ 47 0).toNat)) :=
      hwF_c (fun r a b => rs_at (f := fun i => σ 47 (6 + i)) ⟨a, b⟩) hu.2.2.2.2.1 ⟨by have := hu.2.2.1; show 0 ≤ σ 47 5; omega, hu.2.2.1.2⟩
    unfold dgS
    rw [e2]
  have hf := hmi.2.2.2.1
  unfold dgF
  show _ = mxL (31 * (31 * (31 * dgS (st0 (σ 47)) ((hiM σ).length : Int) + flO (slM σ 0)) + flO (slM σ 1)) + bm ((bfC (σ 51) (σ 46 6)).length : Int)) (bfC (σ 51) (σ 46 6))
  rw [e1, hb, sl_flM hf.1, sl_flM hf.2]
  exact (mxL_bf _).symm
theorem mxM_s {C h i x : Int} {f : Int → Int} (hi : 0 ≤ i ∧ i < 100) (hc : i % 10 < C) (hx : x = mxC C (tM f) h i.toNat) : 31 * x + bm (f (16 + i)) = mxC C (tM f) h (i + 1).toNat := by
  rw [tM_at (f := f) hi]
  exact mxC_s hi.1 hc hx
/-- while mixing -/
def Mx (σ s : Sg) (y : Int) : Prop := Qm σ s ∧ s 46 7 = σ 46 7 ∧ s 46 20 = y
theorem Mx.mx {σ s t : Sg} {y v : Int} (h : Mx σ s y) (ht : Qt s t) : Mx σ (up t 46 20 (31 * t 46 20 + v)) (31 * y + v) :=
  ⟨(h.1.tr ht.1).tr (Qm.u7 (by decide)), by rw [up_nj (by decide), ht.2.1]; exact h.2.1, by rw [up_eq, ht.2.2, h.2.2]⟩
theorem Mx.m0 {σ s : Sg} {y v : Int} (h : Mx σ s y) : Mx σ (up s 46 20 (31 * s 46 20 + v)) (31 * y + v) := h.mx (Qt.refl s)

set_option maxHeartbeats 1000000 in
set_option maxRecDepth 100000 in
theorem tJxe99ae_isNaN_b9ae7 (G : GT) (σ : Sg) (x : UInt64) (hx : Op.cmpValue (FP.dcmp x x) .l = Int32.ofInt 0) : Ct G mJxe99ae_isNaN_b9ae7 1 0 0 false SH SH [Value.double x] σ (fun rv sv => some (I 0) = rv ∧ σ = sv) := by
  obtain ⟨P, hP⟩ : ∃ P : Option Value → Sg → Prop, P = (fun rv sv => some (I 0) = rv ∧ σ = sv) := ⟨_, rfl⟩
  rw [← hP]
  refine ct_ofF (lv := [(0, Value.double x)]) (by decide +kernel) (Nat.le_of_ble_eq_true rfl) rfl ?_
  refine r_dload_n dJxe99ae_isNaN_b9ae7_0 rfl rfl ?_
  refine r_dload_n dJxe99ae_isNaN_b9ae7_1 rfl rfl ?_
  refine r_dcmp (z := 0) dJxe99ae_isNaN_b9ae7_2 (hx) ?_
  refine r_if_eq (tgt := 10) dJxe99ae_isNaN_b9ae7_3 (by decide) (by omega) (fun hb1 => ?_) (fun hb1 => ?_)
  · skip
    refine r_iconst dJxe99ae_isNaN_b9ae7_10 ?_
    exact r_zret dJxe99ae_isNaN_b9ae7_11 rfl (by first | rfl | decide) (by rw [hP]; exact ⟨rfl, rfl⟩)
  · skip
    exact absurd hb1 (by omega)
set_option maxHeartbeats 1000000 in
set_option maxRecDepth 100000 in
theorem tJxe99ae_doubleToLongBits_ccdee (G : GT) (σ : Sg) (x : UInt64) (hx : Op.cmpValue (FP.dcmp x x) .l = Int32.ofInt 0) : Ct G mJxe99ae_doubleToLongBits_ccdee 2 0 0 false SH SH [Value.double x] σ (fun rv sv => some (Lg (dbv x)) = rv ∧ σ = sv) := by
  obtain ⟨P, hP⟩ : ∃ P : Option Value → Sg → Prop, P = (fun rv sv => some (Lg (dbv x)) = rv ∧ σ = sv) := ⟨_, rfl⟩
  rw [← hP]
  refine ct_ofF (lv := [(0, Value.double x)]) (by decide +kernel) (Nat.le_of_ble_eq_true rfl) rfl ?_
  refine r_dload_n dJxe99ae_doubleToLongBits_ccdee_0 rfl rfl ?_
  refine r_callS (tJxe99ae_isNaN_b9ae7 G σ x (hx)) dJxe99ae_doubleToLongBits_ccdee_1 svJxe99ae_isNaN_b9ae7 q915 rfl ⟨Nat.le_of_ble_eq_true rfl, Nat.le_of_ble_eq_true rfl⟩ (Nat.le_of_ble_eq_true rfl) ⟨Nat.le_of_ble_eq_true rfl, Nat.le_of_ble_eq_true rfl⟩ ?_
  rintro _ _ ⟨rfl, rfl⟩
  refine r_if_ne (tgt := 12) dJxe99ae_doubleToLongBits_ccdee_4 (by decide) (by omega) (fun hb1 => ?_) (fun hb1 => ?_)
  · skip
    exact absurd hb1 (by omega)
  · skip
    refine r_dload_n dJxe99ae_doubleToLongBits_ccdee_7 rfl rfl ?_
    refine r_d2lb dJxe99ae_doubleToLongBits_ccdee_8 q918 (Nat.le_of_ble_eq_true rfl) (Nat.le_of_ble_eq_true rfl) ?_
    exact r_lret dJxe99ae_doubleToLongBits_ccdee_11 rfl (by rw [hP]; exact ⟨rfl, rfl⟩)
set_option maxHeartbeats 1000000 in
set_option maxRecDepth 100000 in
theorem tX8_mixes (G : GT) (σ : Sg) (v : Int) : Ct G mX8_mixes 1 0 0 false SH SH [Rf G 46, Lg v] σ (fun rv sv => none = rv ∧ up σ 46 20 (31 * σ 46 20 + v) = sv) := by
  obtain ⟨P, hP⟩ : ∃ P : Option Value → Sg → Prop, P = (fun rv sv => none = rv ∧ up σ 46 20 (31 * σ 46 20 + v) = sv) := ⟨_, rfl⟩
  rw [← hP]
  refine ct_of (lv := [(0, Rf G 46), (1, Lg v)]) (by decide +kernel) (Nat.le_of_ble_eq_true rfl) rfl ?_
  refine r_aload_n dX8_mixes_0 rfl rfl ?_
  refine r_ldc2 (z := 31) dX8_mixes_1 q905 ?_
  refine r_aload_n dX8_mixes_4 rfl rfl ?_
  refine r_getL (z := 20) dX8_mixes_5 sh46 rfl (ci := 8) (j := 20) rfl (Nat.le_of_ble_eq_true rfl) rfl ixX8 q662 rfl (hv := rfl) ?_
  refine r_lmul dX8_mixes_8 ?_
  refine r_lload_n dX8_mixes_9 rfl rfl ?_
  refine r_ladd dX8_mixes_10 ?_
  refine r_putL (z := 20) tyX8 dX8_mixes_11 sh46 rfl (ci := 8) (j := 20) rfl (Nat.le_of_ble_eq_true rfl) rfl tyX8_ok nmX8 ixX8 q662 rfl rfl rfl ?_
  exact r_vret dX8_mixes_14 rfl (by rw [hP]; exact ⟨rfl, rfl⟩)
set_option maxHeartbeats 1000000 in
set_option maxRecDepth 100000 in
theorem tX8_mixesTable (G : GT) (σ : Sg) (h0 : Int) (hmi : IM σ) (hh0 : σ 46 20 = h0) : Ct G mX8_mixesTable 7 0 0 false SH SH [Rf G 46] σ (fun rv sv => none = rv ∧ Mx σ sv (hpF (st0 (σ 47)) (σ 47 0) (σ 47 1) (mxC (σ 47 1) (tM (σ 47)) h0 (10 * σ 47 0).toNat))) := by
  obtain ⟨P, hP⟩ : ∃ P : Option Value → Sg → Prop, P = (fun rv sv => none = rv ∧ Mx σ sv (hpF (st0 (σ 47)) (σ 47 0) (σ 47 1) (mxC (σ 47 1) (tM (σ 47)) h0 (10 * σ 47 0).toNat))) := ⟨_, rfl⟩
  rw [← hP]
  refine ct_of (lv := [(0, Rf G 46)]) (by decide +kernel) (Nat.le_of_ble_eq_true rfl) rfl ?_
  obtain ⟨hR, hC, hn, hT, hwt, hp52, h2, h6, hbf⟩ := hmi.us
  refine r_iconst dX8_mixesTable_0 ?_
  refine r_istore_n (lv' := [(0, Rf G 46), (1, I 0)]) dX8_mixesTable_1 rfl (Nat.le_of_ble_eq_true rfl) rfl ?_
  have L2 : ∀ (mm : Nat) (k : Int) (y : Int) (s : Sg), (10 * σ 47 0 - k).toNat = mm → (hk : 0 ≤ k ∧ k ≤ 10 * σ 47 0) → (hy : y = mxC (σ 47 1) (tM (σ 47)) h0 k.toNat) → (hx : Mx σ s y) → Rn G mX8_mixesTable (rmD 7 0 0) E0 (Zn G false SH P 0 0) false SH 0 0 2 [(0, Rf G 46), (1, I k)] [] s := by
    intro mm
    induction mm using Nat.strongRecOn with
    | _ mm ih2 =>
    intro k y s hm2 hk hy hx
    refine r_iload_n dX8_mixesTable_2 rfl rfl ?_
    refine r_bipush dX8_mixesTable_3 rfl ?_
    refine r_aload_n dX8_mixesTable_5 rfl rfl ?_
    refine r_getR (b := 47) dX8_mixesTable_6 sh46 rfl (ci := 8) (j := 0) rfl (Nat.le_of_ble_eq_true rfl) ixX8 q642 rfl ?_
    refine r_iconst dX8_mixesTable_9 ?_
    refine r_iald dX8_mixesTable_10 sh47 (by omega) (hv := congrFun (hx.1.1 47 (by decide)) 0) ?_
    refine r_imul dX8_mixesTable_11 ?_
    refine r_icmp_ge (tgt := 48) dX8_mixesTable_12 (by decide) (by omega) (fun hb1 => ?_) (fun hb1 => ?_)
    · skip
      refine r_iconst dX8_mixesTable_48 ?_
      refine r_istore_n (lv' := [(0, Rf G 46), (1, I 0)]) dX8_mixesTable_49 rfl (Nat.le_of_ble_eq_true rfl) rfl ?_
      have L50 : ∀ (mm : Nat) (k : Int) (y : Int) (s : Sg), (3 * σ 47 0 - k).toNat = mm → (hk : 0 ≤ k ∧ k ≤ 3 * σ 47 0) → (hy : y = mxG (fun k => plW (st0 (σ 47)) (k % 3) (k / 3)) (mxC (σ 47 1) (tM (σ 47)) h0 (10 * σ 47 0).toNat) k.toNat) → (hx : Mx σ s y) → Rn G mX8_mixesTable (rmD 7 0 0) E0 (Zn G false SH P 0 0) false SH 0 0 50 [(0, Rf G 46), (1, I k)] [] s := by
        intro mm
        induction mm using Nat.strongRecOn with
        | _ mm ih50 =>
        intro k y s hm50 hk hy hx
        refine r_iload_n dX8_mixesTable_50 rfl rfl ?_
        refine r_iconst dX8_mixesTable_51 ?_
        refine r_aload_n dX8_mixesTable_52 rfl rfl ?_
        refine r_getR (b := 47) dX8_mixesTable_53 sh46 rfl (ci := 8) (j := 0) rfl (Nat.le_of_ble_eq_true rfl) ixX8 q642 rfl ?_
        refine r_iconst dX8_mixesTable_56 ?_
        refine r_iald dX8_mixesTable_57 sh47 (by omega) (hv := congrFun (hx.1.1 47 (by decide)) 0) ?_
        refine r_imul dX8_mixesTable_58 ?_
        refine r_icmp_ge (tgt := 83) dX8_mixesTable_59 (by decide) (by omega) (fun hb2 => ?_) (fun hb2 => ?_)
        · skip
          refine r_iconst dX8_mixesTable_83 ?_
          refine r_istore_n (lv' := [(0, Rf G 46), (1, I 0)]) dX8_mixesTable_84 rfl (Nat.le_of_ble_eq_true rfl) rfl ?_
          have L85 : ∀ (mm : Nat) (w : Int) (y : Int) (s : Sg), (3 - w).toNat = mm → (hk : 0 ≤ w ∧ w ≤ 3) → (hy : y = mxG (lkW (st0 (σ 47))) (mxG (fun k => plW (st0 (σ 47)) (k % 3) (k / 3)) (mxC (σ 47 1) (tM (σ 47)) h0 (10 * σ 47 0).toNat) (3 * σ 47 0).toNat) w.toNat) → (hx : Mx σ s y) → Rn G mX8_mixesTable (rmD 7 0 0) E0 (Zn G false SH P 0 0) false SH 0 0 85 [(0, Rf G 46), (1, I w)] [] s := by
            intro mm
            induction mm using Nat.strongRecOn with
            | _ mm ih85 =>
            intro w y s hm85 hk hy hx
            refine r_iload_n dX8_mixesTable_85 rfl rfl ?_
            refine r_iconst dX8_mixesTable_86 ?_
            refine r_icmp_ge (tgt := 106) dX8_mixesTable_87 (by decide) (by omega) (fun hb3 => ?_) (fun hb3 => ?_)
            · skip
              refine r_aload_n dX8_mixesTable_106 rfl rfl ?_
              refine r_aload_n dX8_mixesTable_107 rfl rfl ?_
              refine r_callV (tX8_bounds G s  (by rw [hx.1.1 47 (by decide)]; exact hR) (by rw [hx.1.1 47 (by decide)]; exact hC)) dX8_mixesTable_108 svX8_bounds q829 sh46 (ci := 8) rfl rfl rfl ⟨Nat.le_of_ble_eq_true rfl, Nat.le_of_ble_eq_true rfl⟩ (Nat.le_of_ble_eq_true rfl) ⟨Nat.le_of_ble_eq_true rfl, Nat.le_of_ble_eq_true rfl⟩ ?_
              rintro _ _ ⟨rfl, rfl⟩
              rw [show s 47 0 = σ 47 0 from congrFun (hx.1.1 47 (by decide)) 0]
              rw [show s 47 1 = σ 47 1 from congrFun (hx.1.1 47 (by decide)) 1]
              refine r_i2lb dX8_mixesTable_111 ?_
              refine r_callV (tX8_mixes G s (bm (((σ 47 0) + (σ 47 1)) * hvB ((σ 47 0))))) dX8_mixesTable_112 svX8_mixes q902 sh46 (ci := 8) rfl rfl rfl ⟨Nat.le_of_ble_eq_true rfl, Nat.le_of_ble_eq_true rfl⟩ (Nat.le_of_ble_eq_true rfl) ⟨Nat.le_of_ble_eq_true rfl, Nat.le_of_ble_eq_true rfl⟩ ?_
              rintro _ _ ⟨rfl, rfl⟩
              refine r_iconst dX8_mixesTable_115 ?_
              refine r_istore_n (lv' := [(0, Rf G 46), (1, I 0)]) dX8_mixesTable_116 rfl (Nat.le_of_ble_eq_true rfl) rfl ?_
              have L117 : ∀ (mm : Nat) (q : Int) (y : Int) (s : Sg), (4 - q).toNat = mm → (hk : 0 ≤ q ∧ q ≤ 4) → (hy : y = mxG (tlF (st0 (σ 47))) (31 * mxG (lkW (st0 (σ 47))) (mxG (fun k => plW (st0 (σ 47)) (k % 3) (k / 3)) (mxC (σ 47 1) (tM (σ 47)) h0 (10 * σ 47 0).toNat) (3 * σ 47 0).toNat) 3 + bm ((σ 47 0 + σ 47 1) * hvB (σ 47 0))) q.toNat) → (hx : Mx σ s y) → Rn G mX8_mixesTable (rmD 7 0 0) E0 (Zn G false SH P 0 0) false SH 0 0 117 [(0, Rf G 46), (1, I q)] [] s := by
                intro mm
                induction mm using Nat.strongRecOn with
                | _ mm ih117 =>
                intro q y s hm117 hk hy hx
                refine r_iload_n dX8_mixesTable_117 rfl rfl ?_
                refine r_iconst dX8_mixesTable_118 ?_
                refine r_icmp_ge (tgt := 138) dX8_mixesTable_119 (by decide) (by omega) (fun hb4 => ?_) (fun hb4 => ?_)
                · skip
                  exact r_vret dX8_mixesTable_138 rfl (by rw [hP]; exact ⟨rfl, by rw [hy, show q = 4 by omega] at hx; exact hx⟩)
                · skip
                  refine r_aload_n dX8_mixesTable_122 rfl rfl ?_
                  refine r_aload_n dX8_mixesTable_123 rfl rfl ?_
                  refine r_iload_n dX8_mixesTable_124 rfl rfl ?_
                  refine r_callV (tX8_testified G s q ((hx.1.ci hmi).us.1) ((hx.1.ci hmi).us.2.1) ((hx.1.ci hmi).us.2.2.2.1) (by omega)) dX8_mixesTable_125 svX8_testified q836 sh46 (ci := 8) rfl rfl rfl ⟨Nat.le_of_ble_eq_true rfl, Nat.le_of_ble_eq_true rfl⟩ (Nat.le_of_ble_eq_true rfl) ⟨Nat.le_of_ble_eq_true rfl, Nat.le_of_ble_eq_true rfl⟩ ?_
                  rintro _ _ ⟨rfl, rfl⟩
                  rw [hx.1.1 47 (by decide)]
                  refine r_i2lb dX8_mixesTable_128 ?_
                  refine r_callV (tX8_mixes G s (bm (tlF (st0 (σ 47)) q))) dX8_mixesTable_129 svX8_mixes q902 sh46 (ci := 8) rfl rfl rfl ⟨Nat.le_of_ble_eq_true rfl, Nat.le_of_ble_eq_true rfl⟩ (Nat.le_of_ble_eq_true rfl) ⟨Nat.le_of_ble_eq_true rfl, Nat.le_of_ble_eq_true rfl⟩ ?_
                  rintro _ _ ⟨rfl, rfl⟩
                  refine r_iinc (lv' := [(0, Rf G 46), (1, I (q + 1))]) dX8_mixesTable_132 (Nat.le_of_ble_eq_true rfl) rfl rfl ?_
                  refine r_goto (tgt := 117) dX8_mixesTable_135 (by decide) ?_
                  exact ih117 _ (by omega) (q + 1) _ _ rfl (by omega) (mxG_s (by omega) hy) (hx.m0)
              exact L117 _ 0 _ _ rfl (by omega) (by rw [hy, show w = 3 by omega]; rfl) (hx.m0)
            · skip
              refine r_aload_n dX8_mixesTable_90 rfl rfl ?_
              refine r_aload_n dX8_mixesTable_91 rfl rfl ?_
              refine r_iload_n dX8_mixesTable_92 rfl rfl ?_
              refine r_callV (tX8_looksBy G s w ((hx.1.ci hmi)) (by omega)) dX8_mixesTable_93 svX8_looksBy q822 sh46 (ci := 8) rfl rfl rfl ⟨Nat.le_of_ble_eq_true rfl, Nat.le_of_ble_eq_true rfl⟩ (Nat.le_of_ble_eq_true rfl) ⟨Nat.le_of_ble_eq_true rfl, Nat.le_of_ble_eq_true rfl⟩ ?_
              rintro _ t ⟨rfl, ht⟩
              rw [show s 47 = σ 47 from hx.1.1 47 (by decide)]
              refine r_i2lb dX8_mixesTable_96 ?_
              refine r_callV (tX8_mixes G t (bm (lkW (st0 (σ 47)) w))) dX8_mixesTable_97 svX8_mixes q902 sh46 (ci := 8) rfl rfl rfl ⟨Nat.le_of_ble_eq_true rfl, Nat.le_of_ble_eq_true rfl⟩ (Nat.le_of_ble_eq_true rfl) ⟨Nat.le_of_ble_eq_true rfl, Nat.le_of_ble_eq_true rfl⟩ ?_
              rintro _ _ ⟨rfl, rfl⟩
              refine r_iinc (lv' := [(0, Rf G 46), (1, I (w + 1))]) dX8_mixesTable_100 (Nat.le_of_ble_eq_true rfl) rfl rfl ?_
              refine r_goto (tgt := 85) dX8_mixesTable_103 (by decide) ?_
              exact ih85 _ (by omega) (w + 1) _ _ rfl (by omega) (mxG_s (by omega) hy) (hx.mx ht)
          exact L85 _ 0 _ _ rfl (by omega) (by rw [hy, show k = 3 * σ 47 0 by omega]; rfl) (hx)
        · skip
          refine r_aload_n dX8_mixesTable_62 rfl rfl ?_
          refine r_aload_n dX8_mixesTable_63 rfl rfl ?_
          refine r_iload_n dX8_mixesTable_64 rfl rfl ?_
          refine r_iconst dX8_mixesTable_65 ?_
          refine r_idiv dX8_mixesTable_66 (by omega) ?_
          refine r_iload_n dX8_mixesTable_67 rfl rfl ?_
          refine r_iconst dX8_mixesTable_68 ?_
          refine r_irem dX8_mixesTable_69 (by omega) ?_
          refine r_callV (tX8_placeBy G s (k / 3) (k % 3) ((hx.1.ci hmi)) (by omega) (by rw [hx.1.1 47 (by decide)]; omega)) dX8_mixesTable_70 svX8_placeBy q815 sh46 (ci := 8) rfl rfl rfl ⟨Nat.le_of_ble_eq_true rfl, Nat.le_of_ble_eq_true rfl⟩ (Nat.le_of_ble_eq_true rfl) ⟨Nat.le_of_ble_eq_true rfl, Nat.le_of_ble_eq_true rfl⟩ ?_
          rintro _ t ⟨rfl, ht⟩
          rw [show s 47 = σ 47 from hx.1.1 47 (by decide)]
          refine r_i2lb dX8_mixesTable_73 ?_
          refine r_callV (tX8_mixes G t (bm (plW (st0 (σ 47)) (k % 3) (k / 3)))) dX8_mixesTable_74 svX8_mixes q902 sh46 (ci := 8) rfl rfl rfl ⟨Nat.le_of_ble_eq_true rfl, Nat.le_of_ble_eq_true rfl⟩ (Nat.le_of_ble_eq_true rfl) ⟨Nat.le_of_ble_eq_true rfl, Nat.le_of_ble_eq_true rfl⟩ ?_
          rintro _ _ ⟨rfl, rfl⟩
          refine r_iinc (lv' := [(0, Rf G 46), (1, I (k + 1))]) dX8_mixesTable_77 (Nat.le_of_ble_eq_true rfl) rfl rfl ?_
          refine r_goto (tgt := 50) dX8_mixesTable_80 (by decide) ?_
          exact ih50 _ (by omega) (k + 1) _ _ rfl (by omega) (mxG_s (v := fun k => plW (st0 (σ 47)) (k % 3) (k / 3)) (by omega) hy) (hx.mx ht)
      exact L50 _ 0 _ _ rfl (by omega) (by rw [hy, show k = 10 * σ 47 0 by omega]; rfl) (hx)
    · skip
      refine r_iload_n dX8_mixesTable_15 rfl rfl ?_
      refine r_bipush dX8_mixesTable_16 rfl ?_
      refine r_irem dX8_mixesTable_18 (by omega) ?_
      refine r_aload_n dX8_mixesTable_19 rfl rfl ?_
      refine r_getR (b := 47) dX8_mixesTable_20 sh46 rfl (ci := 8) (j := 0) rfl (Nat.le_of_ble_eq_true rfl) ixX8 q642 rfl ?_
      refine r_iconst dX8_mixesTable_23 ?_
      refine r_iald dX8_mixesTable_24 sh47 (by omega) (hv := congrFun (hx.1.1 47 (by decide)) 1) ?_
      refine r_icmp_ge (tgt := 42) dX8_mixesTable_25 (by decide) (by omega) (fun hb5 => ?_) (fun hb5 => ?_)
      · skip
        refine r_iinc (lv' := [(0, Rf G 46), (1, I (k + 1))]) dX8_mixesTable_42 (Nat.le_of_ble_eq_true rfl) rfl rfl ?_
        refine r_goto (tgt := 2) dX8_mixesTable_45 (by decide) ?_
        exact ih2 _ (by omega) (k + 1) _ _ rfl (by omega) (by first | exact mxM_s (by omega) (by omega) hy | exact hy.trans (mxC_n (by omega) (by omega))) (by first | exact hx.m0 | exact hx)
      · skip
        refine r_aload_n dX8_mixesTable_28 rfl rfl ?_
        refine r_aload_n dX8_mixesTable_29 rfl rfl ?_
        refine r_getR (b := 47) dX8_mixesTable_30 sh46 rfl (ci := 8) (j := 0) rfl (Nat.le_of_ble_eq_true rfl) ixX8 q642 rfl ?_
        refine r_bipush dX8_mixesTable_33 rfl ?_
        refine r_iload_n dX8_mixesTable_35 rfl rfl ?_
        refine r_iadd dX8_mixesTable_36 ?_
        refine r_iald dX8_mixesTable_37 sh47 (by omega) (hv := congrFun (hx.1.1 47 (by decide)) (16 + k)) ?_
        refine r_i2lb dX8_mixesTable_38 ?_
        refine r_callV (tX8_mixes G s (bm (σ 47 (16 + k)))) dX8_mixesTable_39 svX8_mixes q902 sh46 (ci := 8) rfl rfl rfl ⟨Nat.le_of_ble_eq_true rfl, Nat.le_of_ble_eq_true rfl⟩ (Nat.le_of_ble_eq_true rfl) ⟨Nat.le_of_ble_eq_true rfl, Nat.le_of_ble_eq_true rfl⟩ ?_
        rintro _ _ ⟨rfl, rfl⟩
        refine r_iinc (lv' := [(0, Rf G 46), (1, I (k + 1))]) dX8_mixesTable_42 (Nat.le_of_ble_eq_true rfl) rfl rfl ?_
        refine r_goto (tgt := 2) dX8_mixesTable_45 (by decide) ?_
        exact ih2 _ (by omega) (k + 1) _ _ rfl (by omega) (by first | exact mxM_s (by omega) (by omega) hy | exact hy.trans (mxC_n (by omega) (by omega))) (by first | exact hx.m0 | exact hx)
  exact L2 _ 0 _ _ rfl (by omega) (rfl) (⟨Qm.refl σ, rfl, hh0⟩)
set_option maxHeartbeats 1000000 in
set_option maxRecDepth 100000 in
theorem tX8_mixesCuts (G : GT) (σ : Sg) (p h0 : Int) (hmi : IM σ) (h : 1 ≤ p ∧ p ≤ σ 47 5) (hh0 : σ 46 20 = h0) : Ct G mX8_mixesCuts 5 0 0 false SH SH [Rf G 46, I p] σ (fun rv sv => none = rv ∧ Mx σ sv (cuF (fun i => σ 47 (6 + i)) (σ 47 5) p h0)) := by
  obtain ⟨P, hP⟩ : ∃ P : Option Value → Sg → Prop, P = (fun rv sv => none = rv ∧ Mx σ sv (cuF (fun i => σ 47 (6 + i)) (σ 47 5) p h0)) := ⟨_, rfl⟩
  rw [← hP]
  refine ct_of (lv := [(0, Rf G 46), (1, I p)]) (by decide +kernel) (Nat.le_of_ble_eq_true rfl) rfl ?_
  obtain ⟨hR, hC, hn, hT, hwt, hp52, h2, h6, hbf⟩ := hmi.us
  refine r_aload_n dX8_mixesCuts_0 rfl rfl ?_
  refine r_aload_n dX8_mixesCuts_1 rfl rfl ?_
  refine r_iload_n dX8_mixesCuts_2 rfl rfl ?_
  refine r_callV (tX8_leastCost G σ p (hmi) (by omega)) dX8_mixesCuts_3 svX8_leastCost q866 sh46 (ci := 8) rfl rfl rfl ⟨Nat.le_of_ble_eq_true rfl, Nat.le_of_ble_eq_true rfl⟩ (Nat.le_of_ble_eq_true rfl) ⟨Nat.le_of_ble_eq_true rfl, Nat.le_of_ble_eq_true rfl⟩ ?_
  rintro _ t1 ⟨rfl, ht1⟩
  refine r_i2lb dX8_mixesCuts_6 ?_
  refine r_callV (tX8_mixes G t1 (bm ((dpC (fun i => σ 47 (6 + i)) p.toNat (σ 47 5)).1))) dX8_mixesCuts_7 svX8_mixes q902 sh46 (ci := 8) rfl rfl rfl ⟨Nat.le_of_ble_eq_true rfl, Nat.le_of_ble_eq_true rfl⟩ (Nat.le_of_ble_eq_true rfl) ⟨Nat.le_of_ble_eq_true rfl, Nat.le_of_ble_eq_true rfl⟩ ?_
  rintro _ _ ⟨rfl, rfl⟩
  refine r_aload_n dX8_mixesCuts_10 rfl rfl ?_
  refine r_aload_n dX8_mixesCuts_11 rfl rfl ?_
  refine r_iload_n dX8_mixesCuts_12 rfl rfl ?_
  refine r_callV (tX8_leastCost G (up t1 46 20 (31 * t1 46 20 + (bm ((dpC (fun i => σ 47 (6 + i)) p.toNat (σ 47 5)).1)))) p (((Qm.u7 (σ := t1) (j := 20) (v := (31 * t1 46 20 + (bm ((dpC (fun i => σ 47 (6 + i)) p.toNat (σ 47 5)).1)))) (by decide)).ci (ht1.1.ci hmi))) (by rw [up_ne (by decide), ht1.1.1 47 (by decide)]; exact h)) dX8_mixesCuts_13 svX8_leastCost q866 sh46 (ci := 8) rfl rfl rfl ⟨Nat.le_of_ble_eq_true rfl, Nat.le_of_ble_eq_true rfl⟩ (Nat.le_of_ble_eq_true rfl) ⟨Nat.le_of_ble_eq_true rfl, Nat.le_of_ble_eq_true rfl⟩ ?_
  rintro _ t2 ⟨rfl, ht2⟩
  rw [show (up t1 46 20 (31 * t1 46 20 + (bm ((dpC (fun i => σ 47 (6 + i)) p.toNat (σ 47 5)).1)))) 47 = σ 47 from (up_ne (by decide)).trans (ht1.1.1 47 (by decide))]
  refine r_i2lb dX8_mixesCuts_16 ?_
  refine r_callV (tX8_mixes G t2 (bm ((dpC (fun i => σ 47 (6 + i)) p.toNat (σ 47 5)).1))) dX8_mixesCuts_17 svX8_mixes q902 sh46 (ci := 8) rfl rfl rfl ⟨Nat.le_of_ble_eq_true rfl, Nat.le_of_ble_eq_true rfl⟩ (Nat.le_of_ble_eq_true rfl) ⟨Nat.le_of_ble_eq_true rfl, Nat.le_of_ble_eq_true rfl⟩ ?_
  rintro _ _ ⟨rfl, rfl⟩
  refine r_iconst dX8_mixesCuts_20 ?_
  refine r_istore_n (lv' := [(0, Rf G 46), (1, I p), (2, I 0)]) dX8_mixesCuts_21 rfl (Nat.le_of_ble_eq_true rfl) rfl ?_
  have L22 : ∀ (mm : Nat) (c : Int) (y : Int) (s : Sg), (p - c).toNat = mm → (hk : 0 ≤ c ∧ c ≤ p - 1) → (hy : y = mxG (fun c => ctF (fun i => σ 47 (6 + i)) p (σ 47 5) (p - c - 1).toNat) (31 * (31 * h0 + bm (dpC (fun i => σ 47 (6 + i)) p.toNat (σ 47 5)).1) + bm (dpC (fun i => σ 47 (6 + i)) p.toNat (σ 47 5)).1) c.toNat) → (hx : Mx σ s y) → Rn G mX8_mixesCuts (rmD 5 0 0) E0 (Zn G false SH P 0 0) false SH 0 0 22 [(0, Rf G 46), (1, I p), (2, I c)] [] s := by
    intro mm
    induction mm using Nat.strongRecOn with
    | _ mm ih22 =>
    intro c y s hm22 hk hy hx
    refine r_iload_n dX8_mixesCuts_22 rfl rfl ?_
    refine r_iload_n dX8_mixesCuts_23 rfl rfl ?_
    refine r_iconst dX8_mixesCuts_24 ?_
    refine r_isub dX8_mixesCuts_25 ?_
    refine r_icmp_ge (tgt := 46) dX8_mixesCuts_26 (by decide) (by omega) (fun hb1 => ?_) (fun hb1 => ?_)
    · skip
      exact r_vret dX8_mixesCuts_46 rfl (by rw [hP]; exact ⟨rfl, by rw [hy, show c = p - 1 by omega] at hx; exact hx⟩)
    · skip
      refine r_aload_n dX8_mixesCuts_29 rfl rfl ?_
      refine r_aload_n dX8_mixesCuts_30 rfl rfl ?_
      refine r_iload_n dX8_mixesCuts_31 rfl rfl ?_
      refine r_iload_n dX8_mixesCuts_32 rfl rfl ?_
      refine r_callV (tX8_cutAt G s p c ((hx.1.ci hmi)) (by rw [hx.1.1 47 (by decide)]; omega)) dX8_mixesCuts_33 svX8_cutAt q879 sh46 (ci := 8) rfl rfl rfl ⟨Nat.le_of_ble_eq_true rfl, Nat.le_of_ble_eq_true rfl⟩ (Nat.le_of_ble_eq_true rfl) ⟨Nat.le_of_ble_eq_true rfl, Nat.le_of_ble_eq_true rfl⟩ ?_
      rintro _ t ⟨rfl, ht⟩
      rw [show s 47 = σ 47 from hx.1.1 47 (by decide)]
      rw [if_neg (show ¬ p - 1 ≤ c by omega)]
      refine r_i2lb dX8_mixesCuts_36 ?_
      refine r_callV (tX8_mixes G t (bm (ctF (fun i => σ 47 (6 + i)) p (σ 47 5) (p - c - 1).toNat))) dX8_mixesCuts_37 svX8_mixes q902 sh46 (ci := 8) rfl rfl rfl ⟨Nat.le_of_ble_eq_true rfl, Nat.le_of_ble_eq_true rfl⟩ (Nat.le_of_ble_eq_true rfl) ⟨Nat.le_of_ble_eq_true rfl, Nat.le_of_ble_eq_true rfl⟩ ?_
      rintro _ _ ⟨rfl, rfl⟩
      refine r_iinc (lv' := [(0, Rf G 46), (1, I p), (2, I (c + 1))]) dX8_mixesCuts_40 (Nat.le_of_ble_eq_true rfl) rfl rfl ?_
      refine r_goto (tgt := 22) dX8_mixesCuts_43 (by decide) ?_
      exact ih22 _ (by omega) (c + 1) _ _ rfl (by omega) (mxG_s (v := fun c => ctF (fun i => σ 47 (6 + i)) p (σ 47 5) (p - c - 1).toNat) (by omega) hy) (hx.mx ht)
  exact L22 _ 0 _ _ rfl (by omega) (rfl) ((Mx.mx (Mx.mx ⟨Qm.refl σ, rfl, hh0⟩ ht1) ht2))
set_option maxHeartbeats 1000000 in
set_option maxRecDepth 100000 in
theorem tX8_halfShare (G : GT) (σ : Sg)  (hmi : IM σ) : Ct G mX8_halfShare 8 0 0 false SH SH [Rf G 46] σ (fun rv sv => some (.double (shF (st0 (σ 47)))) = rv ∧ sv 46 7 = 0 ∧ DoneM σ sv (absM σ)) := by
  obtain ⟨P, hP⟩ : ∃ P : Option Value → Sg → Prop, P = (fun rv sv => some (.double (shF (st0 (σ 47)))) = rv ∧ sv 46 7 = 0 ∧ DoneM σ sv (absM σ)) := ⟨_, rfl⟩
  rw [← hP]
  refine ct_of (lv := [(0, Rf G 46)]) (by decide +kernel) (Nat.le_of_ble_eq_true rfl) rfl ?_
  refine r_aload_n dX8_halfShare_0 rfl rfl ?_
  refine r_iconst dX8_halfShare_1 ?_
  refine r_putI (z := 7) tyX8 dX8_halfShare_2 sh46 rfl (ci := 8) (j := 7) rfl (Nat.le_of_ble_eq_true rfl) rfl tyX8_ok nmX8 ixX8 q649 rfl rfl rfl ?_
  refine r_aload_n dX8_halfShare_5 rfl rfl ?_
  refine r_callV (tX8_share G (up σ 46 7 0)  (((Qm.u7 (σ := σ) (j := 7) (v := 0) (by decide)).ci hmi))) dX8_halfShare_6 svX8_share q894 sh46 (ci := 8) rfl rfl rfl ⟨Nat.le_of_ble_eq_true rfl, Nat.le_of_ble_eq_true rfl⟩ (Nat.le_of_ble_eq_true rfl) ⟨Nat.le_of_ble_eq_true rfl, Nat.le_of_ble_eq_true rfl⟩ ?_
  rintro _ t ⟨rfl, ht⟩
  rw [show (up σ 46 7 0) 47 = σ 47 from up_ne (by decide)]
  exact r_dret dX8_halfShare_9 rfl (by rw [hP]; exact ⟨rfl, by rw [ht.2.1, up_eq], ((((Qm.refl σ).tr (Qm.u7 (σ := σ) (j := 7) (v := 0) (by decide))).tr ht.1)).done hmi⟩)
set_option maxHeartbeats 1000000 in
set_option maxRecDepth 100000 in
theorem tX8_digest (G : GT) (σ : Sg)  (hmi : IM σ) : Ct G mX8_digest 8 0 0 false SH SH [Rf G 46] σ (fun rv sv => some (Lg (dgF (absM σ))) = rv ∧ sv 46 7 = 0 ∧ DoneM σ sv (absM σ)) := by
  obtain ⟨P, hP⟩ : ∃ P : Option Value → Sg → Prop, P = (fun rv sv => some (Lg (dgF (absM σ))) = rv ∧ sv 46 7 = 0 ∧ DoneM σ sv (absM σ)) := ⟨_, rfl⟩
  rw [← hP]
  refine ct_of (lv := [(0, Rf G 46)]) (by decide +kernel) (Nat.le_of_ble_eq_true rfl) rfl ?_
  obtain ⟨hR, hC, hn, hT, hwt, hp52, h2, h6, hbf⟩ := hmi.us
  obtain ⟨ρ, hρ⟩ : ∃ ρ, ρ = up σ 46 7 0 := ⟨_, rfl⟩
  have hqρ : Qm σ ρ := by rw [hρ]; exact Qm.u7 (by decide)
  have ρ7 : ρ 46 7 = 0 := by rw [hρ, up_eq]
  have ρ47 : ρ 47 = σ 47 := hqρ.1 47 (by decide)
  refine r_aload_n dX8_digest_0 rfl rfl ?_
  refine r_iconst dX8_digest_1 ?_
  refine r_putI (z := 7) tyX8 dX8_digest_2 sh46 rfl (ci := 8) (j := 7) rfl (Nat.le_of_ble_eq_true rfl) rfl tyX8_ok nmX8 ixX8 q649 rfl rfl rfl ?_
  refine r_aload_n dX8_digest_5 rfl rfl ?_
  refine r_ldc2 (z := 3613) dX8_digest_6 q901 ?_
  refine r_putL (z := 20) tyX8 dX8_digest_9 sh46 rfl (ci := 8) (j := 20) rfl (Nat.le_of_ble_eq_true rfl) rfl tyX8_ok nmX8 ixX8 q662 rfl rfl rfl ?_
  refine r_iconst dX8_digest_12 ?_
  refine r_istore_n (lv' := [(0, Rf G 46), (1, I 0)]) dX8_digest_13 rfl (Nat.le_of_ble_eq_true rfl) rfl ?_
  have L14 : ∀ (mm : Nat) (k : Int) (y : Int) (s : Sg), (9 - k).toNat = mm → (hk : 0 ≤ k ∧ k ≤ 9) → (hy : y = mxG (cnF (st0 (σ 47)) (σ 46 2)) 3613 k.toNat) → (hx : Mx ρ s y) → Rn G mX8_digest (rmD 8 0 0) E0 (Zn G false SH P 0 0) false SH 0 0 14 [(0, Rf G 46), (1, I k)] [] s := by
    intro mm
    induction mm using Nat.strongRecOn with
    | _ mm ih14 =>
    intro k y s hm14 hk hy hx
    refine r_iload_n dX8_digest_14 rfl rfl ?_
    refine r_bipush dX8_digest_15 rfl ?_
    refine r_icmp_ge (tgt := 36) dX8_digest_17 (by decide) (by omega) (fun hb1 => ?_) (fun hb1 => ?_)
    · skip
      refine r_aload_n dX8_digest_36 rfl rfl ?_
      refine r_callV (tX8_mixesTable G s y (((hqρ.tr hx.1).ci hmi)) (hx.2.2)) dX8_digest_37 svX8_mixesTable q906 sh46 (ci := 8) rfl rfl rfl ⟨Nat.le_of_ble_eq_true rfl, Nat.le_of_ble_eq_true rfl⟩ (Nat.le_of_ble_eq_true rfl) ⟨Nat.le_of_ble_eq_true rfl, Nat.le_of_ble_eq_true rfl⟩ ?_
      rintro _ t ⟨rfl, hxt⟩
      refine r_iconst dX8_digest_40 ?_
      refine r_istore_n (lv' := [(0, Rf G 46), (1, I 0)]) dX8_digest_41 rfl (Nat.le_of_ble_eq_true rfl) rfl ?_
      have L42 : ∀ (mm : Nat) (i : Int) (y : Int) (s : Sg), (σ 47 5 - i).toNat = mm → (hk : 0 ≤ i ∧ i ≤ σ 47 5) → (hy : y = mxG (fun i => σ 47 (6 + i)) (hpF (st0 (σ 47)) (σ 47 0) (σ 47 1) (mxC (σ 47 1) (tM (σ 47)) (mxG (cnF (st0 (σ 47)) (σ 46 2)) 3613 9) (10 * σ 47 0).toNat)) i.toNat) → (hx : Mx ρ s y) → Rn G mX8_digest (rmD 8 0 0) E0 (Zn G false SH P 0 0) false SH 0 0 42 [(0, Rf G 46), (1, I i)] [] s := by
        intro mm
        induction mm using Nat.strongRecOn with
        | _ mm ih42 =>
        intro i y s hm42 hk hy hx
        refine r_iload_n dX8_digest_42 rfl rfl ?_
        refine r_aload_n dX8_digest_43 rfl rfl ?_
        refine r_getR (b := 47) dX8_digest_44 sh46 rfl (ci := 8) (j := 0) rfl (Nat.le_of_ble_eq_true rfl) ixX8 q642 rfl ?_
        refine r_iconst dX8_digest_47 ?_
        refine r_iald dX8_digest_48 sh47 (by omega) (hv := congrFun ((hqρ.tr hx.1).1 47 (by decide)) 5) ?_
        refine r_icmp_ge (tgt := 72) dX8_digest_49 (by decide) (by omega) (fun hb2 => ?_) (fun hb2 => ?_)
        · skip
          refine r_iconst dX8_digest_72 ?_
          refine r_istore_n (lv' := [(0, Rf G 46), (1, I 1)]) dX8_digest_73 rfl (Nat.le_of_ble_eq_true rfl) rfl ?_
          have L74 : ∀ (mm : Nat) (p : Int) (y : Int) (s : Sg), (11 - p).toNat = mm → (hk : 1 ≤ p ∧ p ≤ σ 47 5 + 1) → (hy : y = cuA (fun i => σ 47 (6 + i)) (σ 47 5) (mxG (fun i => σ 47 (6 + i)) (hpF (st0 (σ 47)) (σ 47 0) (σ 47 1) (mxC (σ 47 1) (tM (σ 47)) (mxG (cnF (st0 (σ 47)) (σ 46 2)) 3613 9) (10 * σ 47 0).toNat)) (σ 47 5).toNat) (p - 1).toNat) → (hx : Mx ρ s y) → Rn G mX8_digest (rmD 8 0 0) E0 (Zn G false SH P 0 0) false SH 0 0 74 [(0, Rf G 46), (1, I p)] [] s := by
            intro mm
            induction mm using Nat.strongRecOn with
            | _ mm ih74 =>
            intro p y s hm74 hk hy hx
            refine r_iload_n dX8_digest_74 rfl rfl ?_
            refine r_aload_n dX8_digest_75 rfl rfl ?_
            refine r_getR (b := 47) dX8_digest_76 sh46 rfl (ci := 8) (j := 0) rfl (Nat.le_of_ble_eq_true rfl) ixX8 q642 rfl ?_
            refine r_iconst dX8_digest_79 ?_
            refine r_iald dX8_digest_80 sh47 (by omega) (hv := congrFun ((hqρ.tr hx.1).1 47 (by decide)) 5) ?_
            refine r_icmp_gt (tgt := 95) dX8_digest_81 (by decide) (by omega) (fun hb3 => ?_) (fun hb3 => ?_)
            · skip
              refine r_aload_n dX8_digest_95 rfl rfl ?_
              refine r_aload_n dX8_digest_96 rfl rfl ?_
              refine r_sipush dX8_digest_97 rfl ?_
              refine r_callV (tX8_fewest G s 1000 (((hqρ.tr hx.1).ci hmi)) (by omega)) dX8_digest_100 svX8_fewest q887 sh46 (ci := 8) rfl rfl rfl ⟨Nat.le_of_ble_eq_true rfl, Nat.le_of_ble_eq_true rfl⟩ (Nat.le_of_ble_eq_true rfl) ⟨Nat.le_of_ble_eq_true rfl, Nat.le_of_ble_eq_true rfl⟩ ?_
              rintro _ f1 ⟨rfl, hf1⟩
              rw [show s 47 = σ 47 from (hqρ.tr hx.1).1 47 (by decide)]
              refine r_i2lb dX8_digest_103 ?_
              refine r_callV (tX8_mixes G f1 (bm (fwF (fun q => (dpC (fun i => σ 47 (6 + i)) q.toNat (σ 47 5)).1) 1000 (σ 47 5).toNat))) dX8_digest_104 svX8_mixes q902 sh46 (ci := 8) rfl rfl rfl ⟨Nat.le_of_ble_eq_true rfl, Nat.le_of_ble_eq_true rfl⟩ (Nat.le_of_ble_eq_true rfl) ⟨Nat.le_of_ble_eq_true rfl, Nat.le_of_ble_eq_true rfl⟩ ?_
              rintro _ _ ⟨rfl, rfl⟩
              refine r_aload_n dX8_digest_107 rfl rfl ?_
              refine r_aload_n dX8_digest_108 rfl rfl ?_
              refine r_callV (tX8_share G (up f1 46 20 (31 * f1 46 20 + (bm (fwF (fun q => (dpC (fun i => σ 47 (6 + i)) q.toNat (σ 47 5)).1) 1000 (σ 47 5).toNat))))  (((Qm.u7 (σ := f1) (j := 20) (v := (31 * f1 46 20 + (bm (fwF (fun q => (dpC (fun i => σ 47 (6 + i)) q.toNat (σ 47 5)).1) 1000 (σ 47 5).toNat)))) (by decide)).ci (hf1.1.ci ((hqρ.tr hx.1).ci hmi))))) dX8_digest_109 svX8_share q894 sh46 (ci := 8) rfl rfl rfl ⟨Nat.le_of_ble_eq_true rfl, Nat.le_of_ble_eq_true rfl⟩ (Nat.le_of_ble_eq_true rfl) ⟨Nat.le_of_ble_eq_true rfl, Nat.le_of_ble_eq_true rfl⟩ ?_
              rintro _ f2 ⟨rfl, hf2⟩
              rw [show (up f1 46 20 (31 * f1 46 20 + (bm (fwF (fun q => (dpC (fun i => σ 47 (6 + i)) q.toNat (σ 47 5)).1) 1000 (σ 47 5).toNat)))) 47 = σ 47 from (up_ne (by decide)).trans ((hf1.1.1 47 (by decide)).trans ((hqρ.tr hx.1).1 47 (by decide)))]
              refine r_callS (tJxe99ae_doubleToLongBits_ccdee G f2 (shF (st0 (σ 47))) (sh_nn hmi)) dX8_digest_112 svJxe99ae_doubleToLongBits_ccdee q912 rfl ⟨Nat.le_of_ble_eq_true rfl, Nat.le_of_ble_eq_true rfl⟩ (Nat.le_of_ble_eq_true rfl) ⟨Nat.le_of_ble_eq_true rfl, Nat.le_of_ble_eq_true rfl⟩ ?_
              rintro _ _ ⟨rfl, rfl⟩
              refine r_callV (tX8_mixes G f2 (dbv (shF (st0 (σ 47))))) dX8_digest_115 svX8_mixes q902 sh46 (ci := 8) rfl rfl rfl ⟨Nat.le_of_ble_eq_true rfl, Nat.le_of_ble_eq_true rfl⟩ (Nat.le_of_ble_eq_true rfl) ⟨Nat.le_of_ble_eq_true rfl, Nat.le_of_ble_eq_true rfl⟩ ?_
              rintro _ _ ⟨rfl, rfl⟩
              obtain ⟨h5, hh5⟩ : ∃ z, z = 31 * (31 * y + bm (fwF (fun q => (dpC (fun i => σ 47 (6 + i)) q.toNat (σ 47 5)).1) 1000 (σ 47 5).toNat)) + dbv (shF (st0 (σ 47))) := ⟨_, rfl⟩
              have hh6 : h5 = 31 * hwF (fun i => σ 47 (6 + i)) (σ 47 5) (hpF (st0 (σ 47)) (σ 47 0) (σ 47 1) (mxC (σ 47 1) (tM (σ 47)) (mxG (cnF (st0 (σ 47)) (σ 46 2)) 3613 9) (10 * σ 47 0).toNat)) + dbv (shF (st0 (σ 47))) := by rw [hh5, hy, show p - 1 = σ 47 5 by omega]; rfl
              refine r_aload_n dX8_digest_118 rfl rfl ?_
              refine r_aload_n dX8_digest_119 rfl rfl ?_
              refine r_getR (b := 50) dX8_digest_120 sh46 rfl (ci := 8) (j := 4) rfl (Nat.le_of_ble_eq_true rfl) ixX8 q646 rfl ?_
              refine r_iconst dX8_digest_123 ?_
              refine r_iald dX8_digest_124 sh50 (by omega) (hv := (congrFun (up_ne (by decide)) 0).trans ((congrFun (hf2.1.1 50 (by decide)) 0).trans ((congrFun (up_ne (by decide)) 0).trans ((congrFun (hf1.1.1 50 (by decide)) 0).trans (congrFun ((hqρ.tr hx.1).1 50 (by decide)) 0))))) ?_
              refine r_i2lb dX8_digest_125 ?_
              refine r_callV (tX8_mixes G (up f2 46 20 (31 * f2 46 20 + (dbv (shF (st0 (σ 47)))))) (bm (σ 50 0))) dX8_digest_126 svX8_mixes q902 sh46 (ci := 8) rfl rfl rfl ⟨Nat.le_of_ble_eq_true rfl, Nat.le_of_ble_eq_true rfl⟩ (Nat.le_of_ble_eq_true rfl) ⟨Nat.le_of_ble_eq_true rfl, Nat.le_of_ble_eq_true rfl⟩ ?_
              rintro _ _ ⟨rfl, rfl⟩
              refine r_aload_n dX8_digest_129 rfl rfl ?_
              refine r_aload_n dX8_digest_130 rfl rfl ?_
              refine r_getR (b := 50) dX8_digest_131 sh46 rfl (ci := 8) (j := 4) rfl (Nat.le_of_ble_eq_true rfl) ixX8 q646 rfl ?_
              refine r_iconst dX8_digest_134 ?_
              refine r_iald dX8_digest_135 sh50 (by omega) (hv := (congrFun (up_ne (by decide)) 1).trans ((congrFun (up_ne (by decide)) 1).trans ((congrFun (hf2.1.1 50 (by decide)) 1).trans ((congrFun (up_ne (by decide)) 1).trans ((congrFun (hf1.1.1 50 (by decide)) 1).trans (congrFun ((hqρ.tr hx.1).1 50 (by decide)) 1)))))) ?_
              refine r_i2lb dX8_digest_136 ?_
              refine r_callV (tX8_mixes G (up (up f2 46 20 (31 * f2 46 20 + (dbv (shF (st0 (σ 47)))))) 46 20 (31 * (up f2 46 20 (31 * f2 46 20 + (dbv (shF (st0 (σ 47)))))) 46 20 + (bm (σ 50 0)))) (bm (σ 50 1))) dX8_digest_137 svX8_mixes q902 sh46 (ci := 8) rfl rfl rfl ⟨Nat.le_of_ble_eq_true rfl, Nat.le_of_ble_eq_true rfl⟩ (Nat.le_of_ble_eq_true rfl) ⟨Nat.le_of_ble_eq_true rfl, Nat.le_of_ble_eq_true rfl⟩ ?_
              rintro _ _ ⟨rfl, rfl⟩
              refine r_aload_n dX8_digest_140 rfl rfl ?_
              refine r_aload_n dX8_digest_141 rfl rfl ?_
              refine r_getI (z := 6) dX8_digest_142 sh46 rfl (ci := 8) (j := 6) rfl (Nat.le_of_ble_eq_true rfl) rfl ixX8 q648 rfl (hv := (up_nj (by decide)).trans ((up_nj (by decide)).trans ((up_nj (by decide)).trans ((hf2.1.2.1.2).trans ((up_nj (by decide)).trans ((hf1.1.2.1.2).trans ((hqρ.tr hx.1).2.1.2))))))) ?_
              refine r_i2lb dX8_digest_145 ?_
              refine r_callV (tX8_mixes G (up (up (up f2 46 20 (31 * f2 46 20 + (dbv (shF (st0 (σ 47)))))) 46 20 (31 * (up f2 46 20 (31 * f2 46 20 + (dbv (shF (st0 (σ 47)))))) 46 20 + (bm (σ 50 0)))) 46 20 (31 * (up (up f2 46 20 (31 * f2 46 20 + (dbv (shF (st0 (σ 47)))))) 46 20 (31 * (up f2 46 20 (31 * f2 46 20 + (dbv (shF (st0 (σ 47)))))) 46 20 + (bm (σ 50 0)))) 46 20 + (bm (σ 50 1)))) (bm (σ 46 6))) dX8_digest_146 svX8_mixes q902 sh46 (ci := 8) rfl rfl rfl ⟨Nat.le_of_ble_eq_true rfl, Nat.le_of_ble_eq_true rfl⟩ (Nat.le_of_ble_eq_true rfl) ⟨Nat.le_of_ble_eq_true rfl, Nat.le_of_ble_eq_true rfl⟩ ?_
              rintro _ _ ⟨rfl, rfl⟩
              refine r_iconst dX8_digest_149 ?_
              refine r_istore_n (lv' := [(0, Rf G 46), (1, I 0)]) dX8_digest_150 rfl (Nat.le_of_ble_eq_true rfl) rfl ?_
              have L151 : ∀ (mm : Nat) (i : Int) (y : Int) (s : Sg), (σ 46 6 - i).toNat = mm → (hk : 0 ≤ i ∧ i ≤ σ 46 6) → (hy : y = mxG (σ 51) (31 * (31 * (31 * h5 + bm (σ 50 0)) + bm (σ 50 1)) + bm (σ 46 6)) i.toNat) → (hx : Mx ρ s y) → Rn G mX8_digest (rmD 8 0 0) E0 (Zn G false SH P 0 0) false SH 0 0 151 [(0, Rf G 46), (1, I i)] [] s := by
                intro mm
                induction mm using Nat.strongRecOn with
                | _ mm ih151 =>
                intro i y s hm151 hk hy hx
                refine r_iload_n dX8_digest_151 rfl rfl ?_
                refine r_aload_n dX8_digest_152 rfl rfl ?_
                refine r_getI (z := 6) dX8_digest_153 sh46 rfl (ci := 8) (j := 6) rfl (Nat.le_of_ble_eq_true rfl) rfl ixX8 q648 rfl (hv := (hqρ.tr hx.1).2.1.2) ?_
                refine r_icmp_ge (tgt := 176) dX8_digest_156 (by decide) (by omega) (fun hb4 => ?_) (fun hb4 => ?_)
                · skip
                  refine r_aload_n dX8_digest_176 rfl rfl ?_
                  refine r_getL (z := 20) dX8_digest_177 sh46 rfl (ci := 8) (j := 20) rfl (Nat.le_of_ble_eq_true rfl) rfl ixX8 q662 rfl (hv := hx.2.2) ?_
                  exact r_lret dX8_digest_180 rfl (by rw [hP]; exact ⟨by rw [hy, show i = σ 46 6 by omega, dgM_end hmi hh6], by rw [hx.2.1, ρ7], ((hqρ.tr hx.1)).done hmi⟩)
                · skip
                  refine r_aload_n dX8_digest_159 rfl rfl ?_
                  refine r_aload_n dX8_digest_160 rfl rfl ?_
                  refine r_getR (b := 51) dX8_digest_161 sh46 rfl (ci := 8) (j := 5) rfl (Nat.le_of_ble_eq_true rfl) ixX8 q647 rfl ?_
                  refine r_iload_n dX8_digest_164 rfl rfl ?_
                  refine r_iald dX8_digest_165 sh51 (by omega) (hv := congrFun ((hqρ.tr hx.1).1 51 (by decide)) i) ?_
                  refine r_i2lb dX8_digest_166 ?_
                  refine r_callV (tX8_mixes G s (bm (σ 51 i))) dX8_digest_167 svX8_mixes q902 sh46 (ci := 8) rfl rfl rfl ⟨Nat.le_of_ble_eq_true rfl, Nat.le_of_ble_eq_true rfl⟩ (Nat.le_of_ble_eq_true rfl) ⟨Nat.le_of_ble_eq_true rfl, Nat.le_of_ble_eq_true rfl⟩ ?_
                  rintro _ _ ⟨rfl, rfl⟩
                  refine r_iinc (lv' := [(0, Rf G 46), (1, I (i + 1))]) dX8_digest_170 (Nat.le_of_ble_eq_true rfl) rfl rfl ?_
                  refine r_goto (tgt := 151) dX8_digest_173 (by decide) ?_
                  exact ih151 _ (by omega) (i + 1) _ _ rfl (by omega) (mxG_s (by omega) hy) (hx.m0)
              exact L151 _ 0 _ _ rfl (by omega) (rfl) (by rw [hh5]; exact ((((hx.mx hf1).mx hf2).m0).m0).m0)
            · skip
              refine r_aload_n dX8_digest_84 rfl rfl ?_
              refine r_iload_n dX8_digest_85 rfl rfl ?_
              refine r_callV (tX8_mixesCuts G s p y (((hqρ.tr hx.1).ci hmi)) (by rw [(hqρ.tr hx.1).1 47 (by decide)]; omega) (hx.2.2)) dX8_digest_86 svX8_mixesCuts q909 sh46 (ci := 8) rfl rfl rfl ⟨Nat.le_of_ble_eq_true rfl, Nat.le_of_ble_eq_true rfl⟩ (Nat.le_of_ble_eq_true rfl) ⟨Nat.le_of_ble_eq_true rfl, Nat.le_of_ble_eq_true rfl⟩ ?_
              rintro _ t ⟨rfl, hxt⟩
              refine r_iinc (lv' := [(0, Rf G 46), (1, I (p + 1))]) dX8_digest_89 (Nat.le_of_ble_eq_true rfl) rfl rfl ?_
              refine r_goto (tgt := 74) dX8_digest_92 (by decide) ?_
              exact ih74 _ (by omega) (p + 1) _ _ rfl (by omega) ((cuA_s hk.1 hy).trans (by rw [show p + 1 - 1 = p by omega])) (⟨hx.1.tr hxt.1, hxt.2.1.trans hx.2.1, by rw [hxt.2.2, (hqρ.tr hx.1).1 47 (by decide)]⟩)
          exact L74 _ 1 _ _ rfl (by omega) (by rw [hy, show i = σ 47 5 by omega]; rfl) (hx)
        · skip
          refine r_aload_n dX8_digest_52 rfl rfl ?_
          refine r_aload_n dX8_digest_53 rfl rfl ?_
          refine r_getR (b := 47) dX8_digest_54 sh46 rfl (ci := 8) (j := 0) rfl (Nat.le_of_ble_eq_true rfl) ixX8 q642 rfl ?_
          refine r_bipush dX8_digest_57 rfl ?_
          refine r_iload_n dX8_digest_59 rfl rfl ?_
          refine r_iadd dX8_digest_60 ?_
          refine r_iald dX8_digest_61 sh47 (by omega) (hv := congrFun ((hqρ.tr hx.1).1 47 (by decide)) (6 + i)) ?_
          refine r_i2lb dX8_digest_62 ?_
          refine r_callV (tX8_mixes G s (bm (σ 47 (6 + i)))) dX8_digest_63 svX8_mixes q902 sh46 (ci := 8) rfl rfl rfl ⟨Nat.le_of_ble_eq_true rfl, Nat.le_of_ble_eq_true rfl⟩ (Nat.le_of_ble_eq_true rfl) ⟨Nat.le_of_ble_eq_true rfl, Nat.le_of_ble_eq_true rfl⟩ ?_
          rintro _ _ ⟨rfl, rfl⟩
          refine r_iinc (lv' := [(0, Rf G 46), (1, I (i + 1))]) dX8_digest_66 (Nat.le_of_ble_eq_true rfl) rfl rfl ?_
          refine r_goto (tgt := 42) dX8_digest_69 (by decide) ?_
          exact ih42 _ (by omega) (i + 1) _ _ rfl (by omega) (mxG_s (v := (fun i => σ 47 (6 + i))) (by omega) hy) (hx.m0)
      exact L42 _ 0 _ _ rfl (by omega) (rfl) (⟨hx.1.tr hxt.1, hxt.2.1.trans hx.2.1, by rw [hxt.2.2, (hqρ.tr hx.1).1 47 (by decide), hy, show k = 9 by omega]; rfl⟩)
    · skip
      refine r_aload_n dX8_digest_20 rfl rfl ?_
      refine r_aload_n dX8_digest_21 rfl rfl ?_
      refine r_iload_n dX8_digest_22 rfl rfl ?_
      refine r_callV (tX8_counted G s k (((hqρ.tr hx.1).ci hmi)) (by omega)) dX8_digest_23 svX8_counted q846 sh46 (ci := 8) rfl rfl rfl ⟨Nat.le_of_ble_eq_true rfl, Nat.le_of_ble_eq_true rfl⟩ (Nat.le_of_ble_eq_true rfl) ⟨Nat.le_of_ble_eq_true rfl, Nat.le_of_ble_eq_true rfl⟩ ?_
      rintro _ t ⟨rfl, ht⟩
      rw [show s 47 = σ 47 from (hqρ.tr hx.1).1 47 (by decide)]
      rw [show s 46 2 = σ 46 2 from (hqρ.tr hx.1).2.1.1]
      refine r_i2lb dX8_digest_26 ?_
      refine r_callV (tX8_mixes G t (bm (cnF (st0 (σ 47)) (σ 46 2) k))) dX8_digest_27 svX8_mixes q902 sh46 (ci := 8) rfl rfl rfl ⟨Nat.le_of_ble_eq_true rfl, Nat.le_of_ble_eq_true rfl⟩ (Nat.le_of_ble_eq_true rfl) ⟨Nat.le_of_ble_eq_true rfl, Nat.le_of_ble_eq_true rfl⟩ ?_
      rintro _ _ ⟨rfl, rfl⟩
      refine r_iinc (lv' := [(0, Rf G 46), (1, I (k + 1))]) dX8_digest_30 (Nat.le_of_ble_eq_true rfl) rfl rfl ?_
      refine r_goto (tgt := 14) dX8_digest_33 (by decide) ?_
      exact ih14 _ (by omega) (k + 1) _ _ rfl (by omega) (mxG_s (by omega) hy) (hx.mx ht)
  exact L14 _ 0 _ _ rfl (by omega) (rfl) (by rw [← hρ]; exact ⟨Qm.u7 (by decide), by rw [up_nj (by decide)], up_eq⟩)
