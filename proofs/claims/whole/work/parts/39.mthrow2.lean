
theorem r_top {G : GT} {M : MI} {R : Room} {E : ET} {Z : ZT} {ex : Bool} {sh : List Ob} {k n : Nat} {pc : Nat} {lv : List (Nat × Value)} {st : List Value} {σ : Sg} {x y : Int} (h : x = y) (kk : Rn G M R E Z ex sh k n pc lv (I y :: st) σ) : Rn G M R E Z ex sh k n pc lv (I x :: st) σ := by rw [h]; exact kk
def ThrP (σ sv : Sg) (d : Int) (F : (Int → Int) × Int × Int) : Prop := (∀ o, o ≠ 46 → o ≠ 54 → o ≠ 55 → sv o = σ o) ∧ (∀ j, j ≠ 9 → sv 46 j = σ 46 j) ∧ sv 46 9 = σ 46 9 + F.2.2 ∧ sv 55 d = F.2.1 ∧ (∀ e, e ≠ d → sv 55 e = σ 55 e) ∧ (∀ j, 0 ≤ j → j < F.2.1 → sv 54 (10 * d + j) = F.1 j) ∧ ∀ x, x < 10 * d → sv 54 x = σ 54 x

set_option maxHeartbeats 1000000 in
set_option maxRecDepth 100000 in
theorem tX8_throwsOut (G : GT) (σ : Sg) (d cnt : Int) (src : Int → Int) (hR : 1 ≤ σ 47 0 ∧ σ 47 0 ≤ 10) (hC : 1 ≤ σ 47 1 ∧ σ 47 1 ≤ 10) (h : 0 ≤ d ∧ d ≤ 3) (hs : (d = 0 ∧ cnt = σ 47 1 ∧ ∀ j, src j = j) ∨ (1 ≤ d ∧ cnt = σ 55 (d - 1) ∧ ∀ j, src j = σ 54 (10 * (d - 1) + j))) (hcn : 0 ≤ cnt ∧ cnt ≤ 10) (hsb : ∀ j, 0 ≤ j → j < cnt → 0 ≤ src j ∧ src j < 10) (hT : ∀ i, 0 ≤ tM (σ 47) i ∧ tM (σ 47) i ≤ 9999) : Ct G mX8_throwsOut 3 0 0 false SH SH [Rf G 46, I d] σ (fun rv sv => none = rv ∧ ThrP σ sv d (plF (tM (σ 47)) d (σ 47 0 / p2 d) src cnt.toNat)) := by
  obtain ⟨P, hP⟩ : ∃ P : Option Value → Sg → Prop, P = (fun rv sv => none = rv ∧ ThrP σ sv d (plF (tM (σ 47)) d (σ 47 0 / p2 d) src cnt.toNat)) := ⟨_, rfl⟩
  rw [← hP]
  refine ct_of (lv := [(0, Rf G 46), (1, I d)]) (by decide +kernel) (Nat.le_of_ble_eq_true rfl) rfl ?_
  have hN := rows_bd (R := σ 47 0) (lvl := d) (by omega) hR
  refine r_iload_n dX8_throwsOut_0 rfl rfl ?_
  refine r_if_ne (tgt := 13) dX8_throwsOut_1 (by decide) (by omega) (fun hb1 => ?_) (fun hb1 => ?_)
  · skip
    refine r_aload_n dX8_throwsOut_13 rfl rfl ?_
    refine r_getR (b := 55) dX8_throwsOut_14 sh46 rfl (ci := 8) (j := 13) rfl (Nat.le_of_ble_eq_true rfl) ixX8 q655 rfl ?_
    refine r_iload_n dX8_throwsOut_17 rfl rfl ?_
    refine r_iconst dX8_throwsOut_18 ?_
    refine r_isub dX8_throwsOut_19 ?_
    refine r_iald dX8_throwsOut_20 sh55 (by omega) (hv := rfl) ?_
    rw [show σ 55 (d - 1) = cnt by rcases hs with q | q; (first | exact q.2.1.symm | (exfalso; omega)); (first | exact q.2.1.symm | (exfalso; omega))]
    refine r_istore_n (lv' := [(0, Rf G 46), (1, I d), (2, I cnt)]) dX8_throwsOut_21 rfl (Nat.le_of_ble_eq_true rfl) rfl ?_
    refine r_iconst dX8_throwsOut_22 ?_
    refine r_istore_n (lv' := [(0, Rf G 46), (1, I d), (2, I cnt), (3, I 0)]) dX8_throwsOut_23 rfl (Nat.le_of_ble_eq_true rfl) rfl ?_
    refine r_iconst dX8_throwsOut_24 ?_
    refine r_istore (lv' := [(0, Rf G 46), (1, I d), (2, I cnt), (3, I 0), (4, I 0)]) dX8_throwsOut_25 (Nat.le_of_ble_eq_true rfl) rfl ?_
    have L27 : ∀ (mm : Nat) (hg k : Int) (s : Sg), (cnt - k).toNat = mm → (hk : 0 ≤ k ∧ k ≤ cnt) → (hh : hg = (plF (tM (σ 47)) d (σ 47 0 / p2 d) src k.toNat).2.1) → (hfr : ∀ o, o ≠ 46 → o ≠ 54 → o ≠ 55 → s o = σ o) → (h46 : ∀ j, j ≠ 9 → s 46 j = σ 46 j) → (f9 : s 46 9 = σ 46 9 + (plF (tM (σ 47)) d (σ 47 0 / p2 d) src k.toNat).2.2) → (h55 : s 55 = σ 55) → (hcon : ∀ j, 0 ≤ j → j < hg → s 54 (10 * d + j) = (plF (tM (σ 47)) d (σ 47 0 / p2 d) src k.toNat).1 j) → (hlow : ∀ x, x < 10 * d → s 54 x = σ 54 x) → Rn G mX8_throwsOut (rmD 3 0 0) E0 (Zn G false SH P 0 0) false SH 0 0 27 [(0, Rf G 46), (1, I d), (2, I cnt), (3, I hg), (4, I k)] [] s := by
      intro mm
      induction mm using Nat.strongRecOn with
      | _ mm ih27 =>
      intro hg k s hm27 hk hh hfr h46 f9 h55 hcon hlow
      have e47 : s 47 = σ 47 := hfr 47 (by decide) (by decide) (by decide)
      have hpb := plF_bd (T := tM (σ 47)) (lvl := d) (N := σ 47 0 / p2 d) (src := src) hN.1 k.toNat
      refine r_iload dX8_throwsOut_27 rfl ?_
      refine r_iload_n dX8_throwsOut_29 rfl rfl ?_
      refine r_icmp_ge (tgt := 69) dX8_throwsOut_30 (by decide) (by omega) (fun hb2 => ?_) (fun hb2 => ?_)
      · skip
        refine r_aload_n dX8_throwsOut_69 rfl rfl ?_
        refine r_getR (b := 55) dX8_throwsOut_70 sh46 rfl (ci := 8) (j := 13) rfl (Nat.le_of_ble_eq_true rfl) ixX8 q655 rfl ?_
        refine r_iload_n dX8_throwsOut_73 rfl rfl ?_
        refine r_iload_n dX8_throwsOut_74 rfl rfl ?_
        refine r_iast dX8_throwsOut_75 sh55 (by omega) ?_
        exact r_vret dX8_throwsOut_76 rfl (by rw [hP]; exact ⟨rfl, fun o a b c => by rw [up_ne c]; exact hfr o a b c, fun j a => by rw [up_ne (by decide)]; exact h46 j a, by rw [up_ne (by decide), f9, show k = cnt by omega], by rw [up_eq, hh, show k = cnt by omega], fun e a => by rw [up_nj a, h55], fun j a b => by rw [up_ne (by decide)]; rw [show cnt = k by omega] at b ⊢; exact hcon j a (by omega), fun x a => by rw [up_ne (by decide)]; exact hlow x a⟩)
      · skip
        obtain ⟨tp, htp9⟩ : ∃ t, t = thF (tM (σ 47)) d (plF (tM (σ 47)) d (σ 47 0 / p2 d) src k.toNat).1 (src k) hg.toNat := ⟨_, rfl⟩
        have htp : thF (tM (s 47)) d (fun j => s 54 (10 * d + j)) (src k) hg.toNat = tp := by rw [htp9, e47]; exact thF_c hg.toNat (fun j a b => hcon j a (by omega))
        have hps := plF_s (T := tM (σ 47)) (lvl := d) (N := σ 47 0 / p2 d) (src := src) (i := k) hk.1 (t := tp) (by rw [htp9, hh])
        have htb := thF_bd (T := tM (σ 47)) (lvl := d) (col := src k) (f := (plF (tM (σ 47)) d (σ 47 0 / p2 d) src k.toNat).1) hg.toNat
        rw [← htp9] at htb
        have hsk := hsb k hk.1 (by omega)
        refine r_aload_n dX8_throwsOut_33 rfl rfl ?_
        refine r_iload_n dX8_throwsOut_34 rfl rfl ?_
        refine r_iload_n dX8_throwsOut_35 rfl rfl ?_
        refine r_iload_n dX8_throwsOut_36 rfl rfl ?_
        refine r_if_ne (tgt := 45) dX8_throwsOut_37 (by decide) (by omega) (fun hb3 => ?_) (fun hb3 => ?_)
        · skip
          refine r_aload_n dX8_throwsOut_45 rfl rfl ?_
          refine r_getR (b := 54) dX8_throwsOut_46 sh46 rfl (ci := 8) (j := 12) rfl (Nat.le_of_ble_eq_true rfl) ixX8 q654 rfl ?_
          refine r_bipush dX8_throwsOut_49 rfl ?_
          refine r_iload_n dX8_throwsOut_51 rfl rfl ?_
          refine r_iconst dX8_throwsOut_52 ?_
          refine r_isub dX8_throwsOut_53 ?_
          refine r_imul dX8_throwsOut_54 ?_
          refine r_iload dX8_throwsOut_55 rfl ?_
          refine r_iadd dX8_throwsOut_57 ?_
          have elow := hlow (10 * (d - 1) + k) (by omega)
          refine r_iald dX8_throwsOut_58 sh54 (by omega) (hv := rfl) ?_
          refine r_top (show s 54 ((10 * (d - 1)) + k) = src k by rcases hs with q | q; (first | exact (q.2.2 k).symm | (exfalso; omega)); (first | (exfalso; omega) | (rw [q.2.2 k, elow]) | (rw [q.2.2 k]))) ?_
          refine r_callV (tX8_piles G s d hg (src k) (by rw [e47]; exact hR) (by rw [e47]; exact hC) (by omega) (fun q a b => by have := rows_ok (lvl := d) (h := q) h hR a (by omega); omega) (fun j a b => by rw [hcon j a b]; obtain ⟨i, i1, i2, i3⟩ := plF_mem (T := tM (σ 47)) (lvl := d) (N := σ 47 0 / p2 d) (src := src) k.toNat j a (by omega); rw [i3]; exact hsb i i1 (by omega)) (by rw [e47]; exact hN) (by rw [e47]; exact hT)) dX8_throwsOut_59 svX8_piles q744 sh46 (ci := 8) rfl rfl rfl ⟨Nat.le_of_ble_eq_true rfl, Nat.le_of_ble_eq_true rfl⟩ (Nat.le_of_ble_eq_true rfl) ⟨Nat.le_of_ble_eq_true rfl, Nat.le_of_ble_eq_true rfl⟩ ?_
          rintro _ u ((⟨z1, rfl, hu⟩) | (⟨z1, rfl, hu⟩))
          · skip
            rw [htp] at z1 hu
            rw [e47] at z1
            rw [htp]
            refine r_istore_n (lv' := [(0, Rf G 46), (1, I d), (2, I cnt), (3, I (tp.1 + 1)), (4, I k)]) dX8_throwsOut_62 rfl (Nat.le_of_ble_eq_true rfl) rfl ?_
            refine r_iinc (lv' := [(0, Rf G 46), (1, I d), (2, I cnt), (3, I (tp.1 + 1)), (4, I (k + 1))]) dX8_throwsOut_63 (Nat.le_of_ble_eq_true rfl) rfl rfl ?_
            refine r_goto (tgt := 27) dX8_throwsOut_66 (by decide) ?_
            exact ih27 _ (by omega) _ (k + 1) _ rfl (by omega) (by rw [hps]; first | rw [if_pos z1] | rw [if_neg z1]) (fun o a b c => by rw [← hu]; first | (rw [up_ne b, up_ne a]; exact hfr o a b c) | (rw [up_ne a]; exact hfr o a b c)) (fun j a => by rw [← hu]; first | (rw [up_ne (by decide), up_nj a]; exact h46 j a) | (rw [up_nj a]; exact h46 j a)) (by rw [hps, ← hu]; first | (rw [if_pos z1, up_ne (by decide), up_eq, f9]; simp only []; omega) | (rw [if_neg z1, up_eq, f9]; simp only []; omega)) (by rw [← hu]; first | rw [up_ne (by decide), up_ne (by decide), h55] | rw [up_ne (by decide), h55]) (by intro j a b; rw [hps, ← hu]; first | (rw [if_pos z1, up_at, up_ne (by decide)]; simp only []; by_cases q : j = tp.1; (rw [if_pos (by omega), if_pos q]); (rw [if_neg (by omega), if_neg q]; exact hcon j a (by omega))) | (rw [if_neg z1, up_ne (by decide)]; simp only []; exact hcon j a (by omega))) (fun x hx => by rw [← hu]; first | (rw [up_nj (by omega), up_ne (by decide)]; exact hlow x hx) | (rw [up_ne (by decide)]; exact hlow x hx))
          · skip
            rw [htp] at z1 hu
            rw [e47] at z1
            rw [htp]
            refine r_istore_n (lv' := [(0, Rf G 46), (1, I d), (2, I cnt), (3, I tp.1), (4, I k)]) dX8_throwsOut_62 rfl (Nat.le_of_ble_eq_true rfl) rfl ?_
            refine r_iinc (lv' := [(0, Rf G 46), (1, I d), (2, I cnt), (3, I tp.1), (4, I (k + 1))]) dX8_throwsOut_63 (Nat.le_of_ble_eq_true rfl) rfl rfl ?_
            refine r_goto (tgt := 27) dX8_throwsOut_66 (by decide) ?_
            exact ih27 _ (by omega) _ (k + 1) _ rfl (by omega) (by rw [hps]; first | rw [if_pos z1] | rw [if_neg z1]) (fun o a b c => by rw [← hu]; first | (rw [up_ne b, up_ne a]; exact hfr o a b c) | (rw [up_ne a]; exact hfr o a b c)) (fun j a => by rw [← hu]; first | (rw [up_ne (by decide), up_nj a]; exact h46 j a) | (rw [up_nj a]; exact h46 j a)) (by rw [hps, ← hu]; first | (rw [if_pos z1, up_ne (by decide), up_eq, f9]; simp only []; omega) | (rw [if_neg z1, up_eq, f9]; simp only []; omega)) (by rw [← hu]; first | rw [up_ne (by decide), up_ne (by decide), h55] | rw [up_ne (by decide), h55]) (by intro j a b; rw [hps, ← hu]; first | (rw [if_pos z1, up_at, up_ne (by decide)]; simp only []; by_cases q : j = tp.1; (rw [if_pos (by omega), if_pos q]); (rw [if_neg (by omega), if_neg q]; exact hcon j a (by omega))) | (rw [if_neg z1, up_ne (by decide)]; simp only []; exact hcon j a (by omega))) (fun x hx => by rw [← hu]; first | (rw [up_nj (by omega), up_ne (by decide)]; exact hlow x hx) | (rw [up_ne (by decide)]; exact hlow x hx))
        · skip
          refine r_iload dX8_throwsOut_40 rfl ?_
          refine r_goto (tgt := 59) dX8_throwsOut_42 (by decide) ?_
          refine r_top (show k = src k by rcases hs with q | q; (first | exact (q.2.2 k).symm | (exfalso; omega)); (first | (exfalso; omega) | (rw [q.2.2 k, elow]) | (rw [q.2.2 k]))) ?_
          refine r_callV (tX8_piles G s d hg (src k) (by rw [e47]; exact hR) (by rw [e47]; exact hC) (by omega) (fun q a b => by have := rows_ok (lvl := d) (h := q) h hR a (by omega); omega) (fun j a b => by rw [hcon j a b]; obtain ⟨i, i1, i2, i3⟩ := plF_mem (T := tM (σ 47)) (lvl := d) (N := σ 47 0 / p2 d) (src := src) k.toNat j a (by omega); rw [i3]; exact hsb i i1 (by omega)) (by rw [e47]; exact hN) (by rw [e47]; exact hT)) dX8_throwsOut_59 svX8_piles q744 sh46 (ci := 8) rfl rfl rfl ⟨Nat.le_of_ble_eq_true rfl, Nat.le_of_ble_eq_true rfl⟩ (Nat.le_of_ble_eq_true rfl) ⟨Nat.le_of_ble_eq_true rfl, Nat.le_of_ble_eq_true rfl⟩ ?_
          rintro _ u ((⟨z1, rfl, hu⟩) | (⟨z1, rfl, hu⟩))
          · skip
            rw [htp] at z1 hu
            rw [e47] at z1
            rw [htp]
            refine r_istore_n (lv' := [(0, Rf G 46), (1, I d), (2, I cnt), (3, I (tp.1 + 1)), (4, I k)]) dX8_throwsOut_62 rfl (Nat.le_of_ble_eq_true rfl) rfl ?_
            refine r_iinc (lv' := [(0, Rf G 46), (1, I d), (2, I cnt), (3, I (tp.1 + 1)), (4, I (k + 1))]) dX8_throwsOut_63 (Nat.le_of_ble_eq_true rfl) rfl rfl ?_
            refine r_goto (tgt := 27) dX8_throwsOut_66 (by decide) ?_
            exact ih27 _ (by omega) _ (k + 1) _ rfl (by omega) (by rw [hps]; first | rw [if_pos z1] | rw [if_neg z1]) (fun o a b c => by rw [← hu]; first | (rw [up_ne b, up_ne a]; exact hfr o a b c) | (rw [up_ne a]; exact hfr o a b c)) (fun j a => by rw [← hu]; first | (rw [up_ne (by decide), up_nj a]; exact h46 j a) | (rw [up_nj a]; exact h46 j a)) (by rw [hps, ← hu]; first | (rw [if_pos z1, up_ne (by decide), up_eq, f9]; simp only []; omega) | (rw [if_neg z1, up_eq, f9]; simp only []; omega)) (by rw [← hu]; first | rw [up_ne (by decide), up_ne (by decide), h55] | rw [up_ne (by decide), h55]) (by intro j a b; rw [hps, ← hu]; first | (rw [if_pos z1, up_at, up_ne (by decide)]; simp only []; by_cases q : j = tp.1; (rw [if_pos (by omega), if_pos q]); (rw [if_neg (by omega), if_neg q]; exact hcon j a (by omega))) | (rw [if_neg z1, up_ne (by decide)]; simp only []; exact hcon j a (by omega))) (fun x hx => by rw [← hu]; first | (rw [up_nj (by omega), up_ne (by decide)]; exact hlow x hx) | (rw [up_ne (by decide)]; exact hlow x hx))
          · skip
            rw [htp] at z1 hu
            rw [e47] at z1
            rw [htp]
            refine r_istore_n (lv' := [(0, Rf G 46), (1, I d), (2, I cnt), (3, I tp.1), (4, I k)]) dX8_throwsOut_62 rfl (Nat.le_of_ble_eq_true rfl) rfl ?_
            refine r_iinc (lv' := [(0, Rf G 46), (1, I d), (2, I cnt), (3, I tp.1), (4, I (k + 1))]) dX8_throwsOut_63 (Nat.le_of_ble_eq_true rfl) rfl rfl ?_
            refine r_goto (tgt := 27) dX8_throwsOut_66 (by decide) ?_
            exact ih27 _ (by omega) _ (k + 1) _ rfl (by omega) (by rw [hps]; first | rw [if_pos z1] | rw [if_neg z1]) (fun o a b c => by rw [← hu]; first | (rw [up_ne b, up_ne a]; exact hfr o a b c) | (rw [up_ne a]; exact hfr o a b c)) (fun j a => by rw [← hu]; first | (rw [up_ne (by decide), up_nj a]; exact h46 j a) | (rw [up_nj a]; exact h46 j a)) (by rw [hps, ← hu]; first | (rw [if_pos z1, up_ne (by decide), up_eq, f9]; simp only []; omega) | (rw [if_neg z1, up_eq, f9]; simp only []; omega)) (by rw [← hu]; first | rw [up_ne (by decide), up_ne (by decide), h55] | rw [up_ne (by decide), h55]) (by intro j a b; rw [hps, ← hu]; first | (rw [if_pos z1, up_at, up_ne (by decide)]; simp only []; by_cases q : j = tp.1; (rw [if_pos (by omega), if_pos q]); (rw [if_neg (by omega), if_neg q]; exact hcon j a (by omega))) | (rw [if_neg z1, up_ne (by decide)]; simp only []; exact hcon j a (by omega))) (fun x hx => by rw [← hu]; first | (rw [up_nj (by omega), up_ne (by decide)]; exact hlow x hx) | (rw [up_ne (by decide)]; exact hlow x hx))
    exact L27 _ 0 0 _ rfl (by omega) (rfl) (fun _ _ _ _ => rfl) (fun _ _ => rfl) ((Int.add_zero _).symm) (rfl) (fun j a b => by omega) (fun _ _ => rfl)
  · skip
    refine r_aload_n dX8_throwsOut_4 rfl rfl ?_
    refine r_getR (b := 47) dX8_throwsOut_5 sh46 rfl (ci := 8) (j := 0) rfl (Nat.le_of_ble_eq_true rfl) ixX8 q642 rfl ?_
    refine r_iconst dX8_throwsOut_8 ?_
    refine r_iald dX8_throwsOut_9 sh47 (by omega) (hv := rfl) ?_
    refine r_goto (tgt := 21) dX8_throwsOut_10 (by decide) ?_
    rw [show σ 47 1 = cnt by rcases hs with q | q; (first | exact q.2.1.symm | (exfalso; omega)); (first | exact q.2.1.symm | (exfalso; omega))]
    refine r_istore_n (lv' := [(0, Rf G 46), (1, I d), (2, I cnt)]) dX8_throwsOut_21 rfl (Nat.le_of_ble_eq_true rfl) rfl ?_
    refine r_iconst dX8_throwsOut_22 ?_
    refine r_istore_n (lv' := [(0, Rf G 46), (1, I d), (2, I cnt), (3, I 0)]) dX8_throwsOut_23 rfl (Nat.le_of_ble_eq_true rfl) rfl ?_
    refine r_iconst dX8_throwsOut_24 ?_
    refine r_istore (lv' := [(0, Rf G 46), (1, I d), (2, I cnt), (3, I 0), (4, I 0)]) dX8_throwsOut_25 (Nat.le_of_ble_eq_true rfl) rfl ?_
    have L27 : ∀ (mm : Nat) (hg k : Int) (s : Sg), (cnt - k).toNat = mm → (hk : 0 ≤ k ∧ k ≤ cnt) → (hh : hg = (plF (tM (σ 47)) d (σ 47 0 / p2 d) src k.toNat).2.1) → (hfr : ∀ o, o ≠ 46 → o ≠ 54 → o ≠ 55 → s o = σ o) → (h46 : ∀ j, j ≠ 9 → s 46 j = σ 46 j) → (f9 : s 46 9 = σ 46 9 + (plF (tM (σ 47)) d (σ 47 0 / p2 d) src k.toNat).2.2) → (h55 : s 55 = σ 55) → (hcon : ∀ j, 0 ≤ j → j < hg → s 54 (10 * d + j) = (plF (tM (σ 47)) d (σ 47 0 / p2 d) src k.toNat).1 j) → (hlow : ∀ x, x < 10 * d → s 54 x = σ 54 x) → Rn G mX8_throwsOut (rmD 3 0 0) E0 (Zn G false SH P 0 0) false SH 0 0 27 [(0, Rf G 46), (1, I d), (2, I cnt), (3, I hg), (4, I k)] [] s := by
      intro mm
      induction mm using Nat.strongRecOn with
      | _ mm ih27 =>
      intro hg k s hm27 hk hh hfr h46 f9 h55 hcon hlow
      have e47 : s 47 = σ 47 := hfr 47 (by decide) (by decide) (by decide)
      have hpb := plF_bd (T := tM (σ 47)) (lvl := d) (N := σ 47 0 / p2 d) (src := src) hN.1 k.toNat
      refine r_iload dX8_throwsOut_27 rfl ?_
      refine r_iload_n dX8_throwsOut_29 rfl rfl ?_
      refine r_icmp_ge (tgt := 69) dX8_throwsOut_30 (by decide) (by omega) (fun hb4 => ?_) (fun hb4 => ?_)
      · skip
        refine r_aload_n dX8_throwsOut_69 rfl rfl ?_
        refine r_getR (b := 55) dX8_throwsOut_70 sh46 rfl (ci := 8) (j := 13) rfl (Nat.le_of_ble_eq_true rfl) ixX8 q655 rfl ?_
        refine r_iload_n dX8_throwsOut_73 rfl rfl ?_
        refine r_iload_n dX8_throwsOut_74 rfl rfl ?_
        refine r_iast dX8_throwsOut_75 sh55 (by omega) ?_
        exact r_vret dX8_throwsOut_76 rfl (by rw [hP]; exact ⟨rfl, fun o a b c => by rw [up_ne c]; exact hfr o a b c, fun j a => by rw [up_ne (by decide)]; exact h46 j a, by rw [up_ne (by decide), f9, show k = cnt by omega], by rw [up_eq, hh, show k = cnt by omega], fun e a => by rw [up_nj a, h55], fun j a b => by rw [up_ne (by decide)]; rw [show cnt = k by omega] at b ⊢; exact hcon j a (by omega), fun x a => by rw [up_ne (by decide)]; exact hlow x a⟩)
      · skip
        obtain ⟨tp, htp9⟩ : ∃ t, t = thF (tM (σ 47)) d (plF (tM (σ 47)) d (σ 47 0 / p2 d) src k.toNat).1 (src k) hg.toNat := ⟨_, rfl⟩
        have htp : thF (tM (s 47)) d (fun j => s 54 (10 * d + j)) (src k) hg.toNat = tp := by rw [htp9, e47]; exact thF_c hg.toNat (fun j a b => hcon j a (by omega))
        have hps := plF_s (T := tM (σ 47)) (lvl := d) (N := σ 47 0 / p2 d) (src := src) (i := k) hk.1 (t := tp) (by rw [htp9, hh])
        have htb := thF_bd (T := tM (σ 47)) (lvl := d) (col := src k) (f := (plF (tM (σ 47)) d (σ 47 0 / p2 d) src k.toNat).1) hg.toNat
        rw [← htp9] at htb
        have hsk := hsb k hk.1 (by omega)
        refine r_aload_n dX8_throwsOut_33 rfl rfl ?_
        refine r_iload_n dX8_throwsOut_34 rfl rfl ?_
        refine r_iload_n dX8_throwsOut_35 rfl rfl ?_
        refine r_iload_n dX8_throwsOut_36 rfl rfl ?_
        refine r_if_ne (tgt := 45) dX8_throwsOut_37 (by decide) (by omega) (fun hb5 => ?_) (fun hb5 => ?_)
        · skip
          refine r_aload_n dX8_throwsOut_45 rfl rfl ?_
          refine r_getR (b := 54) dX8_throwsOut_46 sh46 rfl (ci := 8) (j := 12) rfl (Nat.le_of_ble_eq_true rfl) ixX8 q654 rfl ?_
          refine r_bipush dX8_throwsOut_49 rfl ?_
          refine r_iload_n dX8_throwsOut_51 rfl rfl ?_
          refine r_iconst dX8_throwsOut_52 ?_
          refine r_isub dX8_throwsOut_53 ?_
          refine r_imul dX8_throwsOut_54 ?_
          refine r_iload dX8_throwsOut_55 rfl ?_
          refine r_iadd dX8_throwsOut_57 ?_
          have elow := hlow (10 * (d - 1) + k) (by omega)
          refine r_iald dX8_throwsOut_58 sh54 (by omega) (hv := rfl) ?_
          refine r_top (show s 54 ((10 * (d - 1)) + k) = src k by rcases hs with q | q; (first | exact (q.2.2 k).symm | (exfalso; omega)); (first | (exfalso; omega) | (rw [q.2.2 k, elow]) | (rw [q.2.2 k]))) ?_
          refine r_callV (tX8_piles G s d hg (src k) (by rw [e47]; exact hR) (by rw [e47]; exact hC) (by omega) (fun q a b => by have := rows_ok (lvl := d) (h := q) h hR a (by omega); omega) (fun j a b => by rw [hcon j a b]; obtain ⟨i, i1, i2, i3⟩ := plF_mem (T := tM (σ 47)) (lvl := d) (N := σ 47 0 / p2 d) (src := src) k.toNat j a (by omega); rw [i3]; exact hsb i i1 (by omega)) (by rw [e47]; exact hN) (by rw [e47]; exact hT)) dX8_throwsOut_59 svX8_piles q744 sh46 (ci := 8) rfl rfl rfl ⟨Nat.le_of_ble_eq_true rfl, Nat.le_of_ble_eq_true rfl⟩ (Nat.le_of_ble_eq_true rfl) ⟨Nat.le_of_ble_eq_true rfl, Nat.le_of_ble_eq_true rfl⟩ ?_
          rintro _ u ((⟨z1, rfl, hu⟩) | (⟨z1, rfl, hu⟩))
          · skip
            rw [htp] at z1 hu
            rw [e47] at z1
            rw [htp]
            refine r_istore_n (lv' := [(0, Rf G 46), (1, I d), (2, I cnt), (3, I (tp.1 + 1)), (4, I k)]) dX8_throwsOut_62 rfl (Nat.le_of_ble_eq_true rfl) rfl ?_
            refine r_iinc (lv' := [(0, Rf G 46), (1, I d), (2, I cnt), (3, I (tp.1 + 1)), (4, I (k + 1))]) dX8_throwsOut_63 (Nat.le_of_ble_eq_true rfl) rfl rfl ?_
            refine r_goto (tgt := 27) dX8_throwsOut_66 (by decide) ?_
            exact ih27 _ (by omega) _ (k + 1) _ rfl (by omega) (by rw [hps]; first | rw [if_pos z1] | rw [if_neg z1]) (fun o a b c => by rw [← hu]; first | (rw [up_ne b, up_ne a]; exact hfr o a b c) | (rw [up_ne a]; exact hfr o a b c)) (fun j a => by rw [← hu]; first | (rw [up_ne (by decide), up_nj a]; exact h46 j a) | (rw [up_nj a]; exact h46 j a)) (by rw [hps, ← hu]; first | (rw [if_pos z1, up_ne (by decide), up_eq, f9]; simp only []; omega) | (rw [if_neg z1, up_eq, f9]; simp only []; omega)) (by rw [← hu]; first | rw [up_ne (by decide), up_ne (by decide), h55] | rw [up_ne (by decide), h55]) (by intro j a b; rw [hps, ← hu]; first | (rw [if_pos z1, up_at, up_ne (by decide)]; simp only []; by_cases q : j = tp.1; (rw [if_pos (by omega), if_pos q]); (rw [if_neg (by omega), if_neg q]; exact hcon j a (by omega))) | (rw [if_neg z1, up_ne (by decide)]; simp only []; exact hcon j a (by omega))) (fun x hx => by rw [← hu]; first | (rw [up_nj (by omega), up_ne (by decide)]; exact hlow x hx) | (rw [up_ne (by decide)]; exact hlow x hx))
          · skip
            rw [htp] at z1 hu
            rw [e47] at z1
            rw [htp]
            refine r_istore_n (lv' := [(0, Rf G 46), (1, I d), (2, I cnt), (3, I tp.1), (4, I k)]) dX8_throwsOut_62 rfl (Nat.le_of_ble_eq_true rfl) rfl ?_
            refine r_iinc (lv' := [(0, Rf G 46), (1, I d), (2, I cnt), (3, I tp.1), (4, I (k + 1))]) dX8_throwsOut_63 (Nat.le_of_ble_eq_true rfl) rfl rfl ?_
            refine r_goto (tgt := 27) dX8_throwsOut_66 (by decide) ?_
            exact ih27 _ (by omega) _ (k + 1) _ rfl (by omega) (by rw [hps]; first | rw [if_pos z1] | rw [if_neg z1]) (fun o a b c => by rw [← hu]; first | (rw [up_ne b, up_ne a]; exact hfr o a b c) | (rw [up_ne a]; exact hfr o a b c)) (fun j a => by rw [← hu]; first | (rw [up_ne (by decide), up_nj a]; exact h46 j a) | (rw [up_nj a]; exact h46 j a)) (by rw [hps, ← hu]; first | (rw [if_pos z1, up_ne (by decide), up_eq, f9]; simp only []; omega) | (rw [if_neg z1, up_eq, f9]; simp only []; omega)) (by rw [← hu]; first | rw [up_ne (by decide), up_ne (by decide), h55] | rw [up_ne (by decide), h55]) (by intro j a b; rw [hps, ← hu]; first | (rw [if_pos z1, up_at, up_ne (by decide)]; simp only []; by_cases q : j = tp.1; (rw [if_pos (by omega), if_pos q]); (rw [if_neg (by omega), if_neg q]; exact hcon j a (by omega))) | (rw [if_neg z1, up_ne (by decide)]; simp only []; exact hcon j a (by omega))) (fun x hx => by rw [← hu]; first | (rw [up_nj (by omega), up_ne (by decide)]; exact hlow x hx) | (rw [up_ne (by decide)]; exact hlow x hx))
        · skip
          refine r_iload dX8_throwsOut_40 rfl ?_
          refine r_goto (tgt := 59) dX8_throwsOut_42 (by decide) ?_
          refine r_top (show k = src k by rcases hs with q | q; (first | exact (q.2.2 k).symm | (exfalso; omega)); (first | (exfalso; omega) | (rw [q.2.2 k, elow]) | (rw [q.2.2 k]))) ?_
          refine r_callV (tX8_piles G s d hg (src k) (by rw [e47]; exact hR) (by rw [e47]; exact hC) (by omega) (fun q a b => by have := rows_ok (lvl := d) (h := q) h hR a (by omega); omega) (fun j a b => by rw [hcon j a b]; obtain ⟨i, i1, i2, i3⟩ := plF_mem (T := tM (σ 47)) (lvl := d) (N := σ 47 0 / p2 d) (src := src) k.toNat j a (by omega); rw [i3]; exact hsb i i1 (by omega)) (by rw [e47]; exact hN) (by rw [e47]; exact hT)) dX8_throwsOut_59 svX8_piles q744 sh46 (ci := 8) rfl rfl rfl ⟨Nat.le_of_ble_eq_true rfl, Nat.le_of_ble_eq_true rfl⟩ (Nat.le_of_ble_eq_true rfl) ⟨Nat.le_of_ble_eq_true rfl, Nat.le_of_ble_eq_true rfl⟩ ?_
          rintro _ u ((⟨z1, rfl, hu⟩) | (⟨z1, rfl, hu⟩))
          · skip
            rw [htp] at z1 hu
            rw [e47] at z1
            rw [htp]
            refine r_istore_n (lv' := [(0, Rf G 46), (1, I d), (2, I cnt), (3, I (tp.1 + 1)), (4, I k)]) dX8_throwsOut_62 rfl (Nat.le_of_ble_eq_true rfl) rfl ?_
            refine r_iinc (lv' := [(0, Rf G 46), (1, I d), (2, I cnt), (3, I (tp.1 + 1)), (4, I (k + 1))]) dX8_throwsOut_63 (Nat.le_of_ble_eq_true rfl) rfl rfl ?_
            refine r_goto (tgt := 27) dX8_throwsOut_66 (by decide) ?_
            exact ih27 _ (by omega) _ (k + 1) _ rfl (by omega) (by rw [hps]; first | rw [if_pos z1] | rw [if_neg z1]) (fun o a b c => by rw [← hu]; first | (rw [up_ne b, up_ne a]; exact hfr o a b c) | (rw [up_ne a]; exact hfr o a b c)) (fun j a => by rw [← hu]; first | (rw [up_ne (by decide), up_nj a]; exact h46 j a) | (rw [up_nj a]; exact h46 j a)) (by rw [hps, ← hu]; first | (rw [if_pos z1, up_ne (by decide), up_eq, f9]; simp only []; omega) | (rw [if_neg z1, up_eq, f9]; simp only []; omega)) (by rw [← hu]; first | rw [up_ne (by decide), up_ne (by decide), h55] | rw [up_ne (by decide), h55]) (by intro j a b; rw [hps, ← hu]; first | (rw [if_pos z1, up_at, up_ne (by decide)]; simp only []; by_cases q : j = tp.1; (rw [if_pos (by omega), if_pos q]); (rw [if_neg (by omega), if_neg q]; exact hcon j a (by omega))) | (rw [if_neg z1, up_ne (by decide)]; simp only []; exact hcon j a (by omega))) (fun x hx => by rw [← hu]; first | (rw [up_nj (by omega), up_ne (by decide)]; exact hlow x hx) | (rw [up_ne (by decide)]; exact hlow x hx))
          · skip
            rw [htp] at z1 hu
            rw [e47] at z1
            rw [htp]
            refine r_istore_n (lv' := [(0, Rf G 46), (1, I d), (2, I cnt), (3, I tp.1), (4, I k)]) dX8_throwsOut_62 rfl (Nat.le_of_ble_eq_true rfl) rfl ?_
            refine r_iinc (lv' := [(0, Rf G 46), (1, I d), (2, I cnt), (3, I tp.1), (4, I (k + 1))]) dX8_throwsOut_63 (Nat.le_of_ble_eq_true rfl) rfl rfl ?_
            refine r_goto (tgt := 27) dX8_throwsOut_66 (by decide) ?_
            exact ih27 _ (by omega) _ (k + 1) _ rfl (by omega) (by rw [hps]; first | rw [if_pos z1] | rw [if_neg z1]) (fun o a b c => by rw [← hu]; first | (rw [up_ne b, up_ne a]; exact hfr o a b c) | (rw [up_ne a]; exact hfr o a b c)) (fun j a => by rw [← hu]; first | (rw [up_ne (by decide), up_nj a]; exact h46 j a) | (rw [up_nj a]; exact h46 j a)) (by rw [hps, ← hu]; first | (rw [if_pos z1, up_ne (by decide), up_eq, f9]; simp only []; omega) | (rw [if_neg z1, up_eq, f9]; simp only []; omega)) (by rw [← hu]; first | rw [up_ne (by decide), up_ne (by decide), h55] | rw [up_ne (by decide), h55]) (by intro j a b; rw [hps, ← hu]; first | (rw [if_pos z1, up_at, up_ne (by decide)]; simp only []; by_cases q : j = tp.1; (rw [if_pos (by omega), if_pos q]); (rw [if_neg (by omega), if_neg q]; exact hcon j a (by omega))) | (rw [if_neg z1, up_ne (by decide)]; simp only []; exact hcon j a (by omega))) (fun x hx => by rw [← hu]; first | (rw [up_nj (by omega), up_ne (by decide)]; exact hlow x hx) | (rw [up_ne (by decide)]; exact hlow x hx))
    exact L27 _ 0 0 _ rfl (by omega) (rfl) (fun _ _ _ _ => rfl) (fun _ _ => rfl) ((Int.add_zero _).symm) (rfl) (fun j a b => by omega) (fun _ _ => rfl)
