
def FilM (σ sv : Sg) (Q : (Int → Int) × Int) : Prop := (∀ o, o ≠ 46 → o ≠ 52 → sv o = σ o) ∧ (∀ j, j ≠ 9 → sv 46 j = σ 46 j) ∧ sv 46 9 = σ 46 9 + Q.2 ∧ sv 52 = Q.1

set_option maxHeartbeats 1000000 in
set_option maxRecDepth 100000 in
theorem tX8_fills (G : GT) (σ : Sg) (d : Int) (hR : 1 ≤ σ 47 0 ∧ σ 47 0 ≤ 10) (hC : 1 ≤ σ 47 1 ∧ σ 47 1 ≤ 10) (h : 0 ≤ d ∧ d ≤ 3) (hcn : 0 ≤ σ 55 d ∧ σ 55 d ≤ 10) (hcol : ∀ j, 0 ≤ j → j < σ 55 d → 0 ≤ σ 54 (10 * d + j) ∧ σ 54 (10 * d + j) < 10) (hp52 : ∀ x, -1 ≤ σ 52 x ∧ σ 52 x ≤ 9) (hT : ∀ i, 0 ≤ tM (σ 47) i ∧ tM (σ 47) i ≤ 9999) : Ct G mX8_fills 3 0 0 false SH SH [Rf G 46, I d] σ (fun rv sv => none = rv ∧ FilM σ sv (flF (tM (σ 47)) d (σ 47 0 / p2 d) (fun j => σ 54 (10 * d + j)) (σ 55 d).toNat 10 (σ 52) (((σ 47 0 / p2 d) + 1) / 2).toNat)) := by
  obtain ⟨P, hP⟩ : ∃ P : Option Value → Sg → Prop, P = (fun rv sv => none = rv ∧ FilM σ sv (flF (tM (σ 47)) d (σ 47 0 / p2 d) (fun j => σ 54 (10 * d + j)) (σ 55 d).toNat 10 (σ 52) (((σ 47 0 / p2 d) + 1) / 2).toNat)) := ⟨_, rfl⟩
  rw [← hP]
  refine ct_of (lv := [(0, Rf G 46), (1, I d)]) (by decide +kernel) (Nat.le_of_ble_eq_true rfl) rfl ?_
  have hN := rows_bd (R := σ 47 0) (lvl := d) (by omega) hR
  refine r_aload_n dX8_fills_0 rfl rfl ?_
  refine r_getR (b := 47) dX8_fills_1 sh46 rfl (ci := 8) (j := 0) rfl (Nat.le_of_ble_eq_true rfl) ixX8 q642 rfl ?_
  refine r_iconst dX8_fills_4 ?_
  refine r_iald dX8_fills_5 sh47 (by omega) (hv := rfl) ?_
  refine r_iload_n dX8_fills_6 rfl rfl ?_
  refine r_ishr dX8_fills_7 (by omega) ?_
  refine r_istore_n (lv' := [(0, Rf G 46), (1, I d), (2, I (σ 47 0 / p2 d))]) dX8_fills_8 rfl (Nat.le_of_ble_eq_true rfl) rfl ?_
  refine r_iconst dX8_fills_9 ?_
  refine r_istore_n (lv' := [(0, Rf G 46), (1, I d), (2, I (σ 47 0 / p2 d)), (3, I 0)]) dX8_fills_10 rfl (Nat.le_of_ble_eq_true rfl) rfl ?_
  have L11 : ∀ (mm : Nat) (rk k : Int) (s : Sg), (σ 47 0 / p2 d + 1 - 2 * k).toNat = mm → (hk : 0 ≤ k ∧ 2 * k ≤ σ 47 0 / p2 d + 1) → (hrk : rk = 2 * k) → (hfr : ∀ o, o ≠ 46 → o ≠ 52 → s o = σ o) → (h46 : ∀ j, j ≠ 9 → s 46 j = σ 46 j) → (f9 : s 46 9 = σ 46 9 + (flF (tM (σ 47)) d (σ 47 0 / p2 d) (fun j => σ 54 (10 * d + j)) (σ 55 d).toNat 10 (σ 52) k.toNat).2) → (hpl : s 52 = (flF (tM (σ 47)) d (σ 47 0 / p2 d) (fun j => σ 54 (10 * d + j)) (σ 55 d).toNat 10 (σ 52) k.toNat).1) → Rn G mX8_fills (rmD 3 0 0) E0 (Zn G false SH P 0 0) false SH 0 0 11 [(0, Rf G 46), (1, I d), (2, I (σ 47 0 / p2 d)), (3, I rk)] [] s := by
    intro mm
    induction mm using Nat.strongRecOn with
    | _ mm ih11 =>
    intro rk k s hm11 hk hrk hfr h46 f9 hpl
    obtain ⟨Q, hQ⟩ : ∃ Q, Q = flF (tM (σ 47)) d (σ 47 0 / p2 d) (fun j => σ 54 (10 * d + j)) (σ 55 d).toNat 10 (σ 52) k.toNat := ⟨_, rfl⟩
    rw [← hQ] at f9 hpl
    have hQb : ∀ r, -1 ≤ Q.1 r ∧ Q.1 r ≤ 9 := by rw [hQ]; exact flF_bd hp52 (fun j a b => hcol j a (by omega)) _
    have e47 : s 47 = σ 47 := hfr 47 (by decide) (by decide)
    have e54 : s 54 = σ 54 := hfr 54 (by decide) (by decide)
    have e55 : s 55 = σ 55 := hfr 55 (by decide) (by decide)
    refine r_iload_n dX8_fills_11 rfl rfl ?_
    refine r_iload_n dX8_fills_12 rfl rfl ?_
    refine r_icmp_ge (tgt := 95) dX8_fills_13 (by decide) (by omega) (fun hb1 => ?_) (fun hb1 => ?_)
    · skip
      exact r_vret dX8_fills_95 rfl (by rw [hP]; exact ⟨rfl, hfr, h46, by rw [f9, hQ, show k = ((σ 47 0 / p2 d) + 1) / 2 by omega], by rw [hpl, hQ, show k = ((σ 47 0 / p2 d) + 1) / 2 by omega]⟩)
    · skip
      have r1 := rows_ok (lvl := d) (h := rk + 1) (by omega) hR (by omega) (by omega)
      refine r_iload_n dX8_fills_16 rfl rfl ?_
      refine r_if_ne (tgt := 24) dX8_fills_17 (by decide) (by omega) (fun hb2 => ?_) (fun hb2 => ?_)
      · skip
        have r2 := rows_ok (lvl := d) (h := rk) (by omega) hR (by omega) (by omega)
        have q2 := hQb (rk * p2 d - 1)
        refine r_aload_n dX8_fills_24 rfl rfl ?_
        refine r_getR (b := 52) dX8_fills_25 sh46 rfl (ci := 8) (j := 8) rfl (Nat.le_of_ble_eq_true rfl) ixX8 q650 rfl ?_
        refine r_iload_n dX8_fills_28 rfl rfl ?_
        refine r_iload_n dX8_fills_29 rfl rfl ?_
        refine r_iconst dX8_fills_30 ?_
        refine r_isub dX8_fills_31 ?_
        refine r_callS (tX8_rowAt G s d (rk - 1) (by omega)) dX8_fills_32 svX8_rowAt q747 rfl ⟨Nat.le_of_ble_eq_true rfl, Nat.le_of_ble_eq_true rfl⟩ (Nat.le_of_ble_eq_true rfl) ⟨Nat.le_of_ble_eq_true rfl, Nat.le_of_ble_eq_true rfl⟩ ?_
        rintro _ _ ⟨rfl, rfl⟩
        rw [show rk - 1 + 1 = rk by omega]
        refine r_iald dX8_fills_35 sh52 (by omega) (hv := (congrFun hpl _)) ?_
        refine r_istore (lv' := [(0, Rf G 46), (1, I d), (2, I (σ 47 0 / p2 d)), (3, I rk), (4, I (Q.1 (rk * p2 d - 1)))]) dX8_fills_36 (Nat.le_of_ble_eq_true rfl) rfl ?_
        refine r_iload_n dX8_fills_38 rfl rfl ?_
        refine r_iconst dX8_fills_39 ?_
        refine r_iadd dX8_fills_40 ?_
        refine r_iload_n dX8_fills_41 rfl rfl ?_
        refine r_icmp_ge (tgt := 60) dX8_fills_42 (by decide) (by omega) (fun hb3 => ?_) (fun hb3 => ?_)
        · skip
          refine r_bipush dX8_fills_60 rfl ?_
          refine r_istore (lv' := [(0, Rf G 46), (1, I d), (2, I (σ 47 0 / p2 d)), (3, I rk), (4, I (Q.1 (rk * p2 d - 1))), (5, I 10)]) dX8_fills_62 (Nat.le_of_ble_eq_true rfl) rfl ?_
          refine r_iload_n dX8_fills_64 rfl rfl ?_
          refine r_iload_n dX8_fills_65 rfl rfl ?_
          refine r_callS (tX8_rowAt G s d rk (by omega)) dX8_fills_66 svX8_rowAt q747 rfl ⟨Nat.le_of_ble_eq_true rfl, Nat.le_of_ble_eq_true rfl⟩ (Nat.le_of_ble_eq_true rfl) ⟨Nat.le_of_ble_eq_true rfl, Nat.le_of_ble_eq_true rfl⟩ ?_
          rintro _ _ ⟨rfl, rfl⟩
          refine r_istore (lv' := [(0, Rf G 46), (1, I d), (2, I (σ 47 0 / p2 d)), (3, I rk), (4, I (Q.1 (rk * p2 d - 1))), (5, I 10), (6, I ((rk + 1) * p2 d - 1))]) dX8_fills_69 (Nat.le_of_ble_eq_true rfl) rfl ?_
          refine r_aload_n dX8_fills_71 rfl rfl ?_
          refine r_getR (b := 52) dX8_fills_72 sh46 rfl (ci := 8) (j := 8) rfl (Nat.le_of_ble_eq_true rfl) ixX8 q650 rfl ?_
          refine r_iload dX8_fills_75 rfl ?_
          refine r_aload_n dX8_fills_77 rfl rfl ?_
          refine r_iload_n dX8_fills_78 rfl rfl ?_
          refine r_iload dX8_fills_79 rfl ?_
          refine r_iload dX8_fills_81 rfl ?_
          refine r_iload dX8_fills_83 rfl ?_
          have hs := flF_s (T := tM (σ 47)) (lvl := d) (N := σ 47 0 / p2 d) (g := (fun j => σ 54 (10 * d + j))) (cnt := (σ 55 d).toNat) (dl := 10) (pl := σ 52) (k := k) (Q := Q) (rk := rk) (first := Q.1 (rk * p2 d - 1)) (last := 10) hk.1 hQ hrk (by first | rw [if_pos (by omega)] | rw [if_neg (by omega)]) (by first | rw [if_pos (by omega)] | rw [if_neg (by omega)])
          refine r_callV (tX8_leastLeft G s d ((rk + 1) * p2 d - 1) (Q.1 (rk * p2 d - 1)) 10 (by omega) (by rw [e55]; exact hcn) (by rw [e54, e55]; exact hcol) (by rw [e47]; exact hT)) dX8_fills_85 svX8_leastLeft q753 sh46 (ci := 8) rfl rfl rfl ⟨Nat.le_of_ble_eq_true rfl, Nat.le_of_ble_eq_true rfl⟩ (Nat.le_of_ble_eq_true rfl) ⟨Nat.le_of_ble_eq_true rfl, Nat.le_of_ble_eq_true rfl⟩ ?_
          rintro _ _ ⟨rfl, rfl⟩
          rw [show s 55 d = σ 55 d from congrFun (hfr 55 (by decide) (by decide)) d]
          simp only [e47, e54, e55]
          refine r_iast dX8_fills_88 sh52 (by omega) ?_
          refine r_iinc (lv' := [(0, Rf G 46), (1, I d), (2, I (σ 47 0 / p2 d)), (3, I (rk + 2)), (4, I (Q.1 (rk * p2 d - 1))), (5, I 10), (6, I ((rk + 1) * p2 d - 1))]) dX8_fills_89 (Nat.le_of_ble_eq_true rfl) rfl rfl ?_
          refine r_goto (tgt := 11) dX8_fills_92 (by decide) ?_
          refine r_sub [0, 1, 2, 3] rfl ?_
          exact ih11 _ (by omega) _ (k + 1) _ rfl (by omega) (by omega) (fun o a b => by rw [up_ne b, up_ne a]; exact hfr o a b) (fun j a => by rw [up_ne (by decide), up_nj a]; exact h46 j a) (by rw [hs, up_ne (by decide), up_eq, f9]; simp only []; omega) (by rw [hs]; funext x; rw [up_at, up_ne (by decide), hpl])
        · skip
          have r3 := rows_ok (lvl := d) (h := rk + 2) (by omega) hR (by omega) (by omega)
          have q3 := hQb ((rk + 2) * p2 d - 1)
          refine r_aload_n dX8_fills_45 rfl rfl ?_
          refine r_getR (b := 52) dX8_fills_46 sh46 rfl (ci := 8) (j := 8) rfl (Nat.le_of_ble_eq_true rfl) ixX8 q650 rfl ?_
          refine r_iload_n dX8_fills_49 rfl rfl ?_
          refine r_iload_n dX8_fills_50 rfl rfl ?_
          refine r_iconst dX8_fills_51 ?_
          refine r_iadd dX8_fills_52 ?_
          refine r_callS (tX8_rowAt G s d (rk + 1) (by omega)) dX8_fills_53 svX8_rowAt q747 rfl ⟨Nat.le_of_ble_eq_true rfl, Nat.le_of_ble_eq_true rfl⟩ (Nat.le_of_ble_eq_true rfl) ⟨Nat.le_of_ble_eq_true rfl, Nat.le_of_ble_eq_true rfl⟩ ?_
          rintro _ _ ⟨rfl, rfl⟩
          rw [show rk + 1 + 1 = rk + 2 by omega]
          refine r_iald dX8_fills_56 sh52 (by omega) (hv := (congrFun hpl _)) ?_
          refine r_goto (tgt := 62) dX8_fills_57 (by decide) ?_
          refine r_istore (lv' := [(0, Rf G 46), (1, I d), (2, I (σ 47 0 / p2 d)), (3, I rk), (4, I (Q.1 (rk * p2 d - 1))), (5, I (Q.1 ((rk + 2) * p2 d - 1)))]) dX8_fills_62 (Nat.le_of_ble_eq_true rfl) rfl ?_
          refine r_iload_n dX8_fills_64 rfl rfl ?_
          refine r_iload_n dX8_fills_65 rfl rfl ?_
          refine r_callS (tX8_rowAt G s d rk (by omega)) dX8_fills_66 svX8_rowAt q747 rfl ⟨Nat.le_of_ble_eq_true rfl, Nat.le_of_ble_eq_true rfl⟩ (Nat.le_of_ble_eq_true rfl) ⟨Nat.le_of_ble_eq_true rfl, Nat.le_of_ble_eq_true rfl⟩ ?_
          rintro _ _ ⟨rfl, rfl⟩
          refine r_istore (lv' := [(0, Rf G 46), (1, I d), (2, I (σ 47 0 / p2 d)), (3, I rk), (4, I (Q.1 (rk * p2 d - 1))), (5, I (Q.1 ((rk + 2) * p2 d - 1))), (6, I ((rk + 1) * p2 d - 1))]) dX8_fills_69 (Nat.le_of_ble_eq_true rfl) rfl ?_
          refine r_aload_n dX8_fills_71 rfl rfl ?_
          refine r_getR (b := 52) dX8_fills_72 sh46 rfl (ci := 8) (j := 8) rfl (Nat.le_of_ble_eq_true rfl) ixX8 q650 rfl ?_
          refine r_iload dX8_fills_75 rfl ?_
          refine r_aload_n dX8_fills_77 rfl rfl ?_
          refine r_iload_n dX8_fills_78 rfl rfl ?_
          refine r_iload dX8_fills_79 rfl ?_
          refine r_iload dX8_fills_81 rfl ?_
          refine r_iload dX8_fills_83 rfl ?_
          have hs := flF_s (T := tM (σ 47)) (lvl := d) (N := σ 47 0 / p2 d) (g := (fun j => σ 54 (10 * d + j))) (cnt := (σ 55 d).toNat) (dl := 10) (pl := σ 52) (k := k) (Q := Q) (rk := rk) (first := Q.1 (rk * p2 d - 1)) (last := Q.1 ((rk + 2) * p2 d - 1)) hk.1 hQ hrk (by first | rw [if_pos (by omega)] | rw [if_neg (by omega)]) (by first | rw [if_pos (by omega)] | rw [if_neg (by omega)])
          refine r_callV (tX8_leastLeft G s d ((rk + 1) * p2 d - 1) (Q.1 (rk * p2 d - 1)) (Q.1 ((rk + 2) * p2 d - 1)) (by omega) (by rw [e55]; exact hcn) (by rw [e54, e55]; exact hcol) (by rw [e47]; exact hT)) dX8_fills_85 svX8_leastLeft q753 sh46 (ci := 8) rfl rfl rfl ⟨Nat.le_of_ble_eq_true rfl, Nat.le_of_ble_eq_true rfl⟩ (Nat.le_of_ble_eq_true rfl) ⟨Nat.le_of_ble_eq_true rfl, Nat.le_of_ble_eq_true rfl⟩ ?_
          rintro _ _ ⟨rfl, rfl⟩
          rw [show s 55 d = σ 55 d from congrFun (hfr 55 (by decide) (by decide)) d]
          simp only [e47, e54, e55]
          refine r_iast dX8_fills_88 sh52 (by omega) ?_
          refine r_iinc (lv' := [(0, Rf G 46), (1, I d), (2, I (σ 47 0 / p2 d)), (3, I (rk + 2)), (4, I (Q.1 (rk * p2 d - 1))), (5, I (Q.1 ((rk + 2) * p2 d - 1))), (6, I ((rk + 1) * p2 d - 1))]) dX8_fills_89 (Nat.le_of_ble_eq_true rfl) rfl rfl ?_
          refine r_goto (tgt := 11) dX8_fills_92 (by decide) ?_
          refine r_sub [0, 1, 2, 3] rfl ?_
          exact ih11 _ (by omega) _ (k + 1) _ rfl (by omega) (by omega) (fun o a b => by rw [up_ne b, up_ne a]; exact hfr o a b) (fun j a => by rw [up_ne (by decide), up_nj a]; exact h46 j a) (by rw [hs, up_ne (by decide), up_eq, f9]; simp only []; omega) (by rw [hs]; funext x; rw [up_at, up_ne (by decide), hpl])
      · skip
        refine r_iconst dX8_fills_20 ?_
        refine r_goto (tgt := 36) dX8_fills_21 (by decide) ?_
        refine r_istore (lv' := [(0, Rf G 46), (1, I d), (2, I (σ 47 0 / p2 d)), (3, I rk), (4, I 0)]) dX8_fills_36 (Nat.le_of_ble_eq_true rfl) rfl ?_
        refine r_iload_n dX8_fills_38 rfl rfl ?_
        refine r_iconst dX8_fills_39 ?_
        refine r_iadd dX8_fills_40 ?_
        refine r_iload_n dX8_fills_41 rfl rfl ?_
        refine r_icmp_ge (tgt := 60) dX8_fills_42 (by decide) (by omega) (fun hb4 => ?_) (fun hb4 => ?_)
        · skip
          refine r_bipush dX8_fills_60 rfl ?_
          refine r_istore (lv' := [(0, Rf G 46), (1, I d), (2, I (σ 47 0 / p2 d)), (3, I rk), (4, I 0), (5, I 10)]) dX8_fills_62 (Nat.le_of_ble_eq_true rfl) rfl ?_
          refine r_iload_n dX8_fills_64 rfl rfl ?_
          refine r_iload_n dX8_fills_65 rfl rfl ?_
          refine r_callS (tX8_rowAt G s d rk (by omega)) dX8_fills_66 svX8_rowAt q747 rfl ⟨Nat.le_of_ble_eq_true rfl, Nat.le_of_ble_eq_true rfl⟩ (Nat.le_of_ble_eq_true rfl) ⟨Nat.le_of_ble_eq_true rfl, Nat.le_of_ble_eq_true rfl⟩ ?_
          rintro _ _ ⟨rfl, rfl⟩
          refine r_istore (lv' := [(0, Rf G 46), (1, I d), (2, I (σ 47 0 / p2 d)), (3, I rk), (4, I 0), (5, I 10), (6, I ((rk + 1) * p2 d - 1))]) dX8_fills_69 (Nat.le_of_ble_eq_true rfl) rfl ?_
          refine r_aload_n dX8_fills_71 rfl rfl ?_
          refine r_getR (b := 52) dX8_fills_72 sh46 rfl (ci := 8) (j := 8) rfl (Nat.le_of_ble_eq_true rfl) ixX8 q650 rfl ?_
          refine r_iload dX8_fills_75 rfl ?_
          refine r_aload_n dX8_fills_77 rfl rfl ?_
          refine r_iload_n dX8_fills_78 rfl rfl ?_
          refine r_iload dX8_fills_79 rfl ?_
          refine r_iload dX8_fills_81 rfl ?_
          refine r_iload dX8_fills_83 rfl ?_
          have hs := flF_s (T := tM (σ 47)) (lvl := d) (N := σ 47 0 / p2 d) (g := (fun j => σ 54 (10 * d + j))) (cnt := (σ 55 d).toNat) (dl := 10) (pl := σ 52) (k := k) (Q := Q) (rk := rk) (first := 0) (last := 10) hk.1 hQ hrk (by first | rw [if_pos (by omega)] | rw [if_neg (by omega)]) (by first | rw [if_pos (by omega)] | rw [if_neg (by omega)])
          refine r_callV (tX8_leastLeft G s d ((rk + 1) * p2 d - 1) 0 10 (by omega) (by rw [e55]; exact hcn) (by rw [e54, e55]; exact hcol) (by rw [e47]; exact hT)) dX8_fills_85 svX8_leastLeft q753 sh46 (ci := 8) rfl rfl rfl ⟨Nat.le_of_ble_eq_true rfl, Nat.le_of_ble_eq_true rfl⟩ (Nat.le_of_ble_eq_true rfl) ⟨Nat.le_of_ble_eq_true rfl, Nat.le_of_ble_eq_true rfl⟩ ?_
          rintro _ _ ⟨rfl, rfl⟩
          rw [show s 55 d = σ 55 d from congrFun (hfr 55 (by decide) (by decide)) d]
          simp only [e47, e54, e55]
          refine r_iast dX8_fills_88 sh52 (by omega) ?_
          refine r_iinc (lv' := [(0, Rf G 46), (1, I d), (2, I (σ 47 0 / p2 d)), (3, I (rk + 2)), (4, I 0), (5, I 10), (6, I ((rk + 1) * p2 d - 1))]) dX8_fills_89 (Nat.le_of_ble_eq_true rfl) rfl rfl ?_
          refine r_goto (tgt := 11) dX8_fills_92 (by decide) ?_
          refine r_sub [0, 1, 2, 3] rfl ?_
          exact ih11 _ (by omega) _ (k + 1) _ rfl (by omega) (by omega) (fun o a b => by rw [up_ne b, up_ne a]; exact hfr o a b) (fun j a => by rw [up_ne (by decide), up_nj a]; exact h46 j a) (by rw [hs, up_ne (by decide), up_eq, f9]; simp only []; omega) (by rw [hs]; funext x; rw [up_at, up_ne (by decide), hpl])
        · skip
          have r3 := rows_ok (lvl := d) (h := rk + 2) (by omega) hR (by omega) (by omega)
          have q3 := hQb ((rk + 2) * p2 d - 1)
          refine r_aload_n dX8_fills_45 rfl rfl ?_
          refine r_getR (b := 52) dX8_fills_46 sh46 rfl (ci := 8) (j := 8) rfl (Nat.le_of_ble_eq_true rfl) ixX8 q650 rfl ?_
          refine r_iload_n dX8_fills_49 rfl rfl ?_
          refine r_iload_n dX8_fills_50 rfl rfl ?_
          refine r_iconst dX8_fills_51 ?_
          refine r_iadd dX8_fills_52 ?_
          refine r_callS (tX8_rowAt G s d (rk + 1) (by omega)) dX8_fills_53 svX8_rowAt q747 rfl ⟨Nat.le_of_ble_eq_true rfl, Nat.le_of_ble_eq_true rfl⟩ (Nat.le_of_ble_eq_true rfl) ⟨Nat.le_of_ble_eq_true rfl, Nat.le_of_ble_eq_true rfl⟩ ?_
          rintro _ _ ⟨rfl, rfl⟩
          rw [show rk + 1 + 1 = rk + 2 by omega]
          refine r_iald dX8_fills_56 sh52 (by omega) (hv := (congrFun hpl _)) ?_
          refine r_goto (tgt := 62) dX8_fills_57 (by decide) ?_
          refine r_istore (lv' := [(0, Rf G 46), (1, I d), (2, I (σ 47 0 / p2 d)), (3, I rk), (4, I 0), (5, I (Q.1 ((rk + 2) * p2 d - 1)))]) dX8_fills_62 (Nat.le_of_ble_eq_true rfl) rfl ?_
          refine r_iload_n dX8_fills_64 rfl rfl ?_
          refine r_iload_n dX8_fills_65 rfl rfl ?_
          refine r_callS (tX8_rowAt G s d rk (by omega)) dX8_fills_66 svX8_rowAt q747 rfl ⟨Nat.le_of_ble_eq_true rfl, Nat.le_of_ble_eq_true rfl⟩ (Nat.le_of_ble_eq_true rfl) ⟨Nat.le_of_ble_eq_true rfl, Nat.le_of_ble_eq_true rfl⟩ ?_
          rintro _ _ ⟨rfl, rfl⟩
          refine r_istore (lv' := [(0, Rf G 46), (1, I d), (2, I (σ 47 0 / p2 d)), (3, I rk), (4, I 0), (5, I (Q.1 ((rk + 2) * p2 d - 1))), (6, I ((rk + 1) * p2 d - 1))]) dX8_fills_69 (Nat.le_of_ble_eq_true rfl) rfl ?_
          refine r_aload_n dX8_fills_71 rfl rfl ?_
          refine r_getR (b := 52) dX8_fills_72 sh46 rfl (ci := 8) (j := 8) rfl (Nat.le_of_ble_eq_true rfl) ixX8 q650 rfl ?_
          refine r_iload dX8_fills_75 rfl ?_
          refine r_aload_n dX8_fills_77 rfl rfl ?_
          refine r_iload_n dX8_fills_78 rfl rfl ?_
          refine r_iload dX8_fills_79 rfl ?_
          refine r_iload dX8_fills_81 rfl ?_
          refine r_iload dX8_fills_83 rfl ?_
          have hs := flF_s (T := tM (σ 47)) (lvl := d) (N := σ 47 0 / p2 d) (g := (fun j => σ 54 (10 * d + j))) (cnt := (σ 55 d).toNat) (dl := 10) (pl := σ 52) (k := k) (Q := Q) (rk := rk) (first := 0) (last := Q.1 ((rk + 2) * p2 d - 1)) hk.1 hQ hrk (by first | rw [if_pos (by omega)] | rw [if_neg (by omega)]) (by first | rw [if_pos (by omega)] | rw [if_neg (by omega)])
          refine r_callV (tX8_leastLeft G s d ((rk + 1) * p2 d - 1) 0 (Q.1 ((rk + 2) * p2 d - 1)) (by omega) (by rw [e55]; exact hcn) (by rw [e54, e55]; exact hcol) (by rw [e47]; exact hT)) dX8_fills_85 svX8_leastLeft q753 sh46 (ci := 8) rfl rfl rfl ⟨Nat.le_of_ble_eq_true rfl, Nat.le_of_ble_eq_true rfl⟩ (Nat.le_of_ble_eq_true rfl) ⟨Nat.le_of_ble_eq_true rfl, Nat.le_of_ble_eq_true rfl⟩ ?_
          rintro _ _ ⟨rfl, rfl⟩
          rw [show s 55 d = σ 55 d from congrFun (hfr 55 (by decide) (by decide)) d]
          simp only [e47, e54, e55]
          refine r_iast dX8_fills_88 sh52 (by omega) ?_
          refine r_iinc (lv' := [(0, Rf G 46), (1, I d), (2, I (σ 47 0 / p2 d)), (3, I (rk + 2)), (4, I 0), (5, I (Q.1 ((rk + 2) * p2 d - 1))), (6, I ((rk + 1) * p2 d - 1))]) dX8_fills_89 (Nat.le_of_ble_eq_true rfl) rfl rfl ?_
          refine r_goto (tgt := 11) dX8_fills_92 (by decide) ?_
          refine r_sub [0, 1, 2, 3] rfl ?_
          exact ih11 _ (by omega) _ (k + 1) _ rfl (by omega) (by omega) (fun o a b => by rw [up_ne b, up_ne a]; exact hfr o a b) (fun j a => by rw [up_ne (by decide), up_nj a]; exact h46 j a) (by rw [hs, up_ne (by decide), up_eq, f9]; simp only []; omega) (by rw [hs]; funext x; rw [up_at, up_ne (by decide), hpl])
  exact L11 _ 0 0 _ rfl (by omega) (rfl) (fun _ _ _ => rfl) (fun _ _ => rfl) ((Int.add_zero _).symm) (rfl)
