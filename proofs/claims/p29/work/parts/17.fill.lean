variable {Ω : List Ob}

/-- the rows between, at a level: the places, the looks, after some steps -/
def flF (T : Int → Int) (lvl N : Int) (g : Int → Int) (cnt : Nat) (dl : Int) (pl : Int → Int) : Nat → (Int → Int) × Int
  | 0 => (pl, 0)
  | i + 1 =>
    (fun r => if r = (2 * (i : Int) + 1) * p2 lvl - 1 then lsF T ((2 * (i : Int) + 1) * p2 lvl - 1) (if 2 * (i : Int) = 0 then 0 else (flF T lvl N g cnt dl pl i).1 (2 * (i : Int) * p2 lvl - 1)) (if 2 * (i : Int) + 1 < N then (flF T lvl N g cnt dl pl i).1 ((2 * (i : Int) + 2) * p2 lvl - 1) else dl) g cnt else (flF T lvl N g cnt dl pl i).1 r,
     (flF T lvl N g cnt dl pl i).2 + lcF (if 2 * (i : Int) = 0 then 0 else (flF T lvl N g cnt dl pl i).1 (2 * (i : Int) * p2 lvl - 1)) (if 2 * (i : Int) + 1 < N then (flF T lvl N g cnt dl pl i).1 ((2 * (i : Int) + 2) * p2 lvl - 1) else dl) g cnt)
theorem flF_s {T : Int → Int} {lvl N : Int} {g : Int → Int} {cnt : Nat} {dl k rk first last : Int} {pl : Int → Int} {Q : (Int → Int) × Int} (hk : 0 ≤ k) (hQ : Q = flF T lvl N g cnt dl pl k.toNat) (hrk : rk = 2 * k)
    (hf : first = if rk = 0 then 0 else Q.1 (rk * p2 lvl - 1)) (hl : last = if rk + 1 < N then Q.1 ((rk + 2) * p2 lvl - 1) else dl) :
    flF T lvl N g cnt dl pl (k + 1).toNat = (fun r => if r = (rk + 1) * p2 lvl - 1 then lsF T ((rk + 1) * p2 lvl - 1) first last g cnt else Q.1 r, Q.2 + lcF first last g cnt) := by
  rw [toNat_s hk]
  simp only [flF]
  rw [Int.toNat_of_nonneg hk, ← hQ, ← hrk, ← hf, ← hl]
theorem flF_bd {T : Int → Int} {lvl N : Int} {g : Int → Int} {cnt : Nat} {dl : Int} {pl : Int → Int} (hp : ∀ r, -1 ≤ pl r ∧ pl r ≤ 9) (hg : ∀ j : Int, 0 ≤ j → j < cnt → 0 ≤ g j ∧ g j < 10) : ∀ (k : Nat) (r : Int), -1 ≤ (flF T lvl N g cnt dl pl k).1 r ∧ (flF T lvl N g cnt dl pl k).1 r ≤ 9
  | 0, r => hp r
  | k + 1, r => by
    have ih := flF_bd (T := T) (lvl := lvl) (N := N) (g := g) (cnt := cnt) (dl := dl) (pl := pl) hp hg k
    simp only [flF]
    split
    · next e =>
      rcases lsF_mem (T := T) (row := (2 * (k : Int) + 1) * p2 lvl - 1) (first := if 2 * (k : Int) = 0 then 0 else (flF T lvl N g cnt dl pl k).1 (2 * (k : Int) * p2 lvl - 1)) (last := if 2 * (k : Int) + 1 < N then (flF T lvl N g cnt dl pl k).1 ((2 * (k : Int) + 2) * p2 lvl - 1) else dl) (f := g) cnt with h | ⟨j, h1, h2, h3⟩
      · rw [h]; omega
      · rw [h3]; have := hg j h1 h2; omega
    · exact ih r
def FillP (σ sv : Sg) (r : (Int → Int) × Int) : Prop :=
  (∀ a, a ≠ 5 → a ≠ 6 → sv a = σ a) ∧ sv 5 5 = σ 5 5 ∧ sv 5 6 = σ 5 6 + r.2 ∧ (∀ x, sv 6 (10 * σ 5 5 + x) = r.1 x)

set_option maxHeartbeats 1000000 in
set_option maxRecDepth 100000 in
theorem tX1_fillBetween (G : GT) (σ : Sg) (lvl : Int) (h : 0 ≤ lvl ∧ lvl ≤ 3) (hR : 1 ≤ σ 1 0 ∧ σ 1 0 ≤ 10) (hC : 1 ≤ σ 1 1 ∧ σ 1 1 ≤ 10) (hn : 0 ≤ σ 9 (lvl + 1) ∧ σ 9 (lvl + 1) ≤ 10) (hcol : ∀ j, 0 ≤ j → j < σ 9 (lvl + 1) → 0 ≤ σ 8 (10 * (lvl + 1) + j) ∧ σ 8 (10 * (lvl + 1) + j) < 10) (hp6 : ∀ x, -1 ≤ σ 6 x ∧ σ 6 x ≤ 9) (hT : ∀ i, 0 ≤ σ 2 i ∧ σ 2 i ≤ 9999) (hw : 0 ≤ σ 5 5 ∧ σ 5 5 ≤ 2) : Ct G mX1_fillBetween 4 0 0 false (SH Ω) (SH Ω) [Rf G 5, I lvl] σ (fun rv sv => none = rv ∧ FillP σ sv (flF (σ 2) lvl (σ 1 0 / p2 lvl) (fun j => σ 8 (10 * (lvl + 1) + j)) (σ 9 (lvl + 1)).toNat (σ 1 1 - 1) (fun r => σ 6 (10 * σ 5 5 + r)) ((σ 1 0 / p2 lvl + 1) / 2).toNat)) := by
  obtain ⟨P, hP⟩ : ∃ P : Option Value → Sg → Prop, P = (fun rv sv => none = rv ∧ FillP σ sv (flF (σ 2) lvl (σ 1 0 / p2 lvl) (fun j => σ 8 (10 * (lvl + 1) + j)) (σ 9 (lvl + 1)).toNat (σ 1 1 - 1) (fun r => σ 6 (10 * σ 5 5 + r)) ((σ 1 0 / p2 lvl + 1) / 2).toNat)) := ⟨_, rfl⟩
  rw [← hP]
  refine ct_of (lv := [(0, Rf G 5), (1, I lvl)]) (by decide +kernel) (Nat.le_of_ble_eq_true rfl) rfl ?_
  have hN := rows_bd (R := σ 1 0) (lvl := lvl) (by omega) hR
  refine r_aload_n dX1_fillBetween_0 rfl rfl ?_
  refine r_iload_n dX1_fillBetween_1 rfl rfl ?_
  refine r_callV (tX1_rowsAt G σ lvl (by omega) (by omega)) dX1_fillBetween_2 svX1_rowsAt q293 sh5 (ci := 1) rfl rfl rfl ⟨Nat.le_of_ble_eq_true rfl, Nat.le_of_ble_eq_true rfl⟩ (Nat.le_of_ble_eq_true rfl) ⟨Nat.le_of_ble_eq_true rfl, Nat.le_of_ble_eq_true rfl⟩ ?_
  rintro _ _ ⟨rfl, rfl⟩
  refine r_istore_n (lv' := [(0, Rf G 5), (1, I lvl), (2, I (σ 1 0 / p2 lvl))]) dX1_fillBetween_5 rfl (Nat.le_of_ble_eq_true rfl) rfl ?_
  refine r_iconst dX1_fillBetween_6 ?_
  refine r_istore_n (lv' := [(0, Rf G 5), (1, I lvl), (2, I (σ 1 0 / p2 lvl)), (3, I 0)]) dX1_fillBetween_7 rfl (Nat.le_of_ble_eq_true rfl) rfl ?_
  have L8 : ∀ (mm : Nat) (rk k : Int) (s : Sg), (σ 1 0 / p2 lvl + 1 - 2 * k).toNat = mm → (hk : 0 ≤ k ∧ 2 * k ≤ σ 1 0 / p2 lvl + 1) → (hrk : rk = 2 * k) → (hfr : ∀ a, a ≠ 5 → a ≠ 6 → s a = σ a) → (f5 : s 5 5 = σ 5 5) → (f6 : s 5 6 = σ 5 6 + (flF (σ 2) lvl (σ 1 0 / p2 lvl) (fun j => σ 8 (10 * (lvl + 1) + j)) (σ 9 (lvl + 1)).toNat (σ 1 1 - 1) (fun r => σ 6 (10 * σ 5 5 + r)) k.toNat).2) → (hpl : ∀ x, s 6 (10 * σ 5 5 + x) = (flF (σ 2) lvl (σ 1 0 / p2 lvl) (fun j => σ 8 (10 * (lvl + 1) + j)) (σ 9 (lvl + 1)).toNat (σ 1 1 - 1) (fun r => σ 6 (10 * σ 5 5 + r)) k.toNat).1 x) → Rn G mX1_fillBetween (rmD 4 0 0) E0 (Zn G false (SH Ω) P 0 0) false (SH Ω) 0 0 8 [(0, Rf G 5), (1, I lvl), (2, I (σ 1 0 / p2 lvl)), (3, I rk)] [] s := by
    intro mm
    induction mm using Nat.strongRecOn with
    | _ mm ih8 =>
    intro rk k s hm8 hk hrk hfr f5 f6 hpl
    obtain ⟨Q, hQ⟩ : ∃ Q, Q = flF (σ 2) lvl (σ 1 0 / p2 lvl) (fun j => σ 8 (10 * (lvl + 1) + j)) (σ 9 (lvl + 1)).toNat (σ 1 1 - 1) (fun r => σ 6 (10 * σ 5 5 + r)) k.toNat := ⟨_, rfl⟩
    rw [← hQ] at f6
    simp only [← hQ] at hpl
    have hQb : ∀ r, -1 ≤ Q.1 r ∧ Q.1 r ≤ 9 := by rw [hQ]; exact flF_bd (fun r => hp6 _) (fun j a b => hcol j a (by omega)) _
    refine r_iload_n dX1_fillBetween_8 rfl rfl ?_
    refine r_iload_n dX1_fillBetween_9 rfl rfl ?_
    refine r_icmp_ge (tgt := 109) dX1_fillBetween_10 (by decide) (by omega) (fun hb1 => ?_) (fun hb1 => ?_)
    · skip
      exact r_vret dX1_fillBetween_109 rfl (by rw [hP]; exact ⟨rfl, hfr, f5, by rw [f6, hQ, show k = (σ 1 0 / p2 lvl + 1) / 2 by omega], by rw [show (σ 1 0 / p2 lvl + 1) / 2 = k by omega, ← hQ]; exact hpl⟩)
    · skip
      have r1 := rows_ok (lvl := lvl) (h := rk + 1) (by omega) hR (by omega) (by omega)
      refine r_aload_n dX1_fillBetween_13 rfl rfl ?_
      refine r_iload_n dX1_fillBetween_14 rfl rfl ?_
      refine r_iload_n dX1_fillBetween_15 rfl rfl ?_
      refine r_callV (tX1_rowAt G s lvl rk (by omega)) dX1_fillBetween_16 svX1_rowAt q299 sh5 (ci := 1) rfl rfl rfl ⟨Nat.le_of_ble_eq_true rfl, Nat.le_of_ble_eq_true rfl⟩ (Nat.le_of_ble_eq_true rfl) ⟨Nat.le_of_ble_eq_true rfl, Nat.le_of_ble_eq_true rfl⟩ ?_
      rintro _ _ ⟨rfl, rfl⟩
      refine r_istore (lv' := [(0, Rf G 5), (1, I lvl), (2, I (σ 1 0 / p2 lvl)), (3, I rk), (4, I ((rk + 1) * p2 lvl - 1))]) dX1_fillBetween_19 (Nat.le_of_ble_eq_true rfl) rfl ?_
      refine r_iload_n dX1_fillBetween_21 rfl rfl ?_
      refine r_if_ne (tgt := 29) dX1_fillBetween_22 (by decide) (by omega) (fun hb2 => ?_) (fun hb2 => ?_)
      · skip
        have r2 := rows_ok (lvl := lvl) (h := rk) (by omega) hR (by omega) (by omega)
        have q2 := hQb (rk * p2 lvl - 1)
        refine r_aload_n dX1_fillBetween_29 rfl rfl ?_
        refine r_aload_n dX1_fillBetween_30 rfl rfl ?_
        refine r_getI (z := 5) dX1_fillBetween_31 sh5 rfl (ci := 1) (j := 5) rfl (Nat.le_of_ble_eq_true rfl) rfl ixX1 q79 rfl (hv := f5) ?_
        refine r_aload_n dX1_fillBetween_34 rfl rfl ?_
        refine r_iload_n dX1_fillBetween_35 rfl rfl ?_
        refine r_iload_n dX1_fillBetween_36 rfl rfl ?_
        refine r_iconst dX1_fillBetween_37 ?_
        refine r_isub dX1_fillBetween_38 ?_
        refine r_callV (tX1_rowAt G s lvl (rk - 1) (by omega)) dX1_fillBetween_39 svX1_rowAt q299 sh5 (ci := 1) rfl rfl rfl ⟨Nat.le_of_ble_eq_true rfl, Nat.le_of_ble_eq_true rfl⟩ (Nat.le_of_ble_eq_true rfl) ⟨Nat.le_of_ble_eq_true rfl, Nat.le_of_ble_eq_true rfl⟩ ?_
        rintro _ _ ⟨rfl, rfl⟩
        rw [show rk - 1 + 1 = rk by omega]
        refine r_callV (tX1_placeBy G s (σ 5 5) (rk * p2 lvl - 1) (by omega)) dX1_fillBetween_42 svX1_placeBy q305 sh5 (ci := 1) rfl rfl rfl ⟨Nat.le_of_ble_eq_true rfl, Nat.le_of_ble_eq_true rfl⟩ (Nat.le_of_ble_eq_true rfl) ⟨Nat.le_of_ble_eq_true rfl, Nat.le_of_ble_eq_true rfl⟩ ?_
        rintro _ _ ⟨rfl, rfl⟩
        rw [show s 6 (10 * (σ 5 5) + (rk * p2 lvl - 1)) = Q.1 (rk * p2 lvl - 1) from hpl _]
        refine r_istore (lv' := [(0, Rf G 5), (1, I lvl), (2, I (σ 1 0 / p2 lvl)), (3, I rk), (4, I ((rk + 1) * p2 lvl - 1)), (5, I (Q.1 (rk * p2 lvl - 1)))]) dX1_fillBetween_45 (Nat.le_of_ble_eq_true rfl) rfl ?_
        refine r_iload_n dX1_fillBetween_47 rfl rfl ?_
        refine r_iload_n dX1_fillBetween_48 rfl rfl ?_
        refine r_iconst dX1_fillBetween_49 ?_
        refine r_isub dX1_fillBetween_50 ?_
        refine r_icmp_ne (tgt := 66) dX1_fillBetween_51 (by decide) (by omega) (fun hb3 => ?_) (fun hb3 => ?_)
        · skip
          have r3 := rows_ok (lvl := lvl) (h := rk + 2) (by omega) hR (by omega) (by omega)
          have q3 := hQb ((rk + 2) * p2 lvl - 1)
          refine r_aload_n dX1_fillBetween_66 rfl rfl ?_
          refine r_aload_n dX1_fillBetween_67 rfl rfl ?_
          refine r_getI (z := 5) dX1_fillBetween_68 sh5 rfl (ci := 1) (j := 5) rfl (Nat.le_of_ble_eq_true rfl) rfl ixX1 q79 rfl (hv := f5) ?_
          refine r_aload_n dX1_fillBetween_71 rfl rfl ?_
          refine r_iload_n dX1_fillBetween_72 rfl rfl ?_
          refine r_iload_n dX1_fillBetween_73 rfl rfl ?_
          refine r_iconst dX1_fillBetween_74 ?_
          refine r_iadd dX1_fillBetween_75 ?_
          refine r_callV (tX1_rowAt G s lvl (rk + 1) (by omega)) dX1_fillBetween_76 svX1_rowAt q299 sh5 (ci := 1) rfl rfl rfl ⟨Nat.le_of_ble_eq_true rfl, Nat.le_of_ble_eq_true rfl⟩ (Nat.le_of_ble_eq_true rfl) ⟨Nat.le_of_ble_eq_true rfl, Nat.le_of_ble_eq_true rfl⟩ ?_
          rintro _ _ ⟨rfl, rfl⟩
          rw [show rk + 1 + 1 = rk + 2 by omega]
          refine r_callV (tX1_placeBy G s (σ 5 5) ((rk + 2) * p2 lvl - 1) (by omega)) dX1_fillBetween_79 svX1_placeBy q305 sh5 (ci := 1) rfl rfl rfl ⟨Nat.le_of_ble_eq_true rfl, Nat.le_of_ble_eq_true rfl⟩ (Nat.le_of_ble_eq_true rfl) ⟨Nat.le_of_ble_eq_true rfl, Nat.le_of_ble_eq_true rfl⟩ ?_
          rintro _ _ ⟨rfl, rfl⟩
          rw [show s 6 (10 * (σ 5 5) + ((rk + 2) * p2 lvl - 1)) = Q.1 ((rk + 2) * p2 lvl - 1) from hpl _]
          refine r_istore (lv' := [(0, Rf G 5), (1, I lvl), (2, I (σ 1 0 / p2 lvl)), (3, I rk), (4, I ((rk + 1) * p2 lvl - 1)), (5, I (Q.1 (rk * p2 lvl - 1))), (6, I (Q.1 ((rk + 2) * p2 lvl - 1)))]) dX1_fillBetween_82 (Nat.le_of_ble_eq_true rfl) rfl ?_
          have hs := flF_s (first := Q.1 (rk * p2 lvl - 1)) (last := Q.1 ((rk + 2) * p2 lvl - 1)) hk.1 hQ hrk (by first | rw [if_pos (show rk = 0 by omega)] | rw [if_neg (show ¬ rk = 0 by omega)]) (by first | rw [if_pos (show rk + 1 < σ 1 0 / p2 lvl by omega)] | rw [if_neg (show ¬ rk + 1 < σ 1 0 / p2 lvl by omega)])
          refine r_aload_n dX1_fillBetween_84 rfl rfl ?_
          refine r_iload dX1_fillBetween_85 rfl ?_
          refine r_aload_n dX1_fillBetween_87 rfl rfl ?_
          refine r_iload dX1_fillBetween_88 rfl ?_
          refine r_iload_n dX1_fillBetween_90 rfl rfl ?_
          refine r_iconst dX1_fillBetween_91 ?_
          refine r_iadd dX1_fillBetween_92 ?_
          refine r_iload dX1_fillBetween_93 rfl ?_
          refine r_iload dX1_fillBetween_95 rfl ?_
          refine r_callV (tX1_leftmostLeast G s ((rk + 1) * p2 lvl - 1) (lvl + 1) (Q.1 (rk * p2 lvl - 1)) (Q.1 ((rk + 2) * p2 lvl - 1)) (by omega) (by rw [hfr 9 (by decide) (by decide)]; exact hn) (by rw [hfr 9 (by decide) (by decide), hfr 8 (by decide) (by decide)]; exact hcol) (by rw [hfr 2 (by decide) (by decide)]; exact hT)) dX1_fillBetween_97 svX1_leftmostLeast q273 sh5 (ci := 1) rfl rfl rfl ⟨Nat.le_of_ble_eq_true rfl, Nat.le_of_ble_eq_true rfl⟩ (Nat.le_of_ble_eq_true rfl) ⟨Nat.le_of_ble_eq_true rfl, Nat.le_of_ble_eq_true rfl⟩ ?_
          rintro _ _ ⟨rfl, rfl⟩
          rw [show s 9 (lvl + 1) = σ 9 (lvl + 1) from congrFun (hfr 9 (by decide) (by decide)) (lvl + 1)]
          simp only [hfr 9 (by decide) (by decide), hfr 8 (by decide) (by decide), hfr 2 (by decide) (by decide)]
          obtain ⟨v, hv⟩ : ∃ v, v = lsF (σ 2) ((rk + 1) * p2 lvl - 1) (Q.1 (rk * p2 lvl - 1)) (Q.1 ((rk + 2) * p2 lvl - 1)) (fun j => σ 8 (10 * (lvl + 1) + j)) (σ 9 (lvl + 1)).toNat := ⟨_, rfl⟩
          obtain ⟨lk, hlk⟩ : ∃ v, v = lcF (Q.1 (rk * p2 lvl - 1)) (Q.1 ((rk + 2) * p2 lvl - 1)) (fun j => σ 8 (10 * (lvl + 1) + j)) (σ 9 (lvl + 1)).toNat := ⟨_, rfl⟩
          rw [← hv, ← hlk] at hs
          rw [← hv, ← hlk]
          refine r_callV (tX1_setPlace G (up s 5 6 (s 5 6 + lk)) ((rk + 1) * p2 lvl - 1) v (by rw [up_nj (by decide), f5]; omega)) dX1_fillBetween_100 svX1_setPlace q287 sh5 (ci := 1) rfl rfl rfl ⟨Nat.le_of_ble_eq_true rfl, Nat.le_of_ble_eq_true rfl⟩ (Nat.le_of_ble_eq_true rfl) ⟨Nat.le_of_ble_eq_true rfl, Nat.le_of_ble_eq_true rfl⟩ ?_
          rintro _ _ ⟨rfl, rfl⟩
          rw [up_nj (show (5 : Int) ≠ 6 by decide), f5]
          refine r_iinc (lv' := [(0, Rf G 5), (1, I lvl), (2, I (σ 1 0 / p2 lvl)), (3, I (rk + 2)), (4, I ((rk + 1) * p2 lvl - 1)), (5, I (Q.1 (rk * p2 lvl - 1))), (6, I (Q.1 ((rk + 2) * p2 lvl - 1)))]) dX1_fillBetween_103 (Nat.le_of_ble_eq_true rfl) rfl rfl ?_
          refine r_goto (tgt := 8) dX1_fillBetween_106 (by decide) ?_
          refine r_sub [0, 1, 2, 3] rfl ?_
          exact ih8 _ (by omega) _ (k + 1) _ rfl (by omega) (by omega) (fun a h5 h6 => by rw [up_ne h6, up_ne h5]; exact hfr a h5 h6) (by rw [up_ne (by decide), up_nj (by decide), f5]) (by rw [hs, up_ne (by decide), up_eq, f6]; simp only []; omega) (by intro x; rw [hs, up_at, up_ne (by decide)]; simp only []; by_cases q : x = (rk + 1) * p2 lvl - 1; (rw [if_pos (by omega), if_pos q]); (rw [if_neg (by omega), if_neg q]; exact hpl x))
        · skip
          refine r_aload_n dX1_fillBetween_54 rfl rfl ?_
          refine r_getR (b := 1) dX1_fillBetween_55 sh5 rfl (ci := 1) (j := 0) rfl (Nat.le_of_ble_eq_true rfl) ixX1 q74 rfl ?_
          refine r_getI (z := 1) dX1_fillBetween_58 sh1 rfl (ci := 5) (j := 1) rfl (Nat.le_of_ble_eq_true rfl) rfl ixX5 q38 rfl (hv := congrFun (hfr 1 (by decide) (by decide)) 1) ?_
          refine r_iconst dX1_fillBetween_61 ?_
          refine r_isub dX1_fillBetween_62 ?_
          refine r_goto (tgt := 82) dX1_fillBetween_63 (by decide) ?_
          refine r_istore (lv' := [(0, Rf G 5), (1, I lvl), (2, I (σ 1 0 / p2 lvl)), (3, I rk), (4, I ((rk + 1) * p2 lvl - 1)), (5, I (Q.1 (rk * p2 lvl - 1))), (6, I ((σ 1 1) - 1))]) dX1_fillBetween_82 (Nat.le_of_ble_eq_true rfl) rfl ?_
          have hs := flF_s (first := Q.1 (rk * p2 lvl - 1)) (last := (σ 1 1) - 1) hk.1 hQ hrk (by first | rw [if_pos (show rk = 0 by omega)] | rw [if_neg (show ¬ rk = 0 by omega)]) (by first | rw [if_pos (show rk + 1 < σ 1 0 / p2 lvl by omega)] | rw [if_neg (show ¬ rk + 1 < σ 1 0 / p2 lvl by omega)])
          refine r_aload_n dX1_fillBetween_84 rfl rfl ?_
          refine r_iload dX1_fillBetween_85 rfl ?_
          refine r_aload_n dX1_fillBetween_87 rfl rfl ?_
          refine r_iload dX1_fillBetween_88 rfl ?_
          refine r_iload_n dX1_fillBetween_90 rfl rfl ?_
          refine r_iconst dX1_fillBetween_91 ?_
          refine r_iadd dX1_fillBetween_92 ?_
          refine r_iload dX1_fillBetween_93 rfl ?_
          refine r_iload dX1_fillBetween_95 rfl ?_
          refine r_callV (tX1_leftmostLeast G s ((rk + 1) * p2 lvl - 1) (lvl + 1) (Q.1 (rk * p2 lvl - 1)) ((σ 1 1) - 1) (by omega) (by rw [hfr 9 (by decide) (by decide)]; exact hn) (by rw [hfr 9 (by decide) (by decide), hfr 8 (by decide) (by decide)]; exact hcol) (by rw [hfr 2 (by decide) (by decide)]; exact hT)) dX1_fillBetween_97 svX1_leftmostLeast q273 sh5 (ci := 1) rfl rfl rfl ⟨Nat.le_of_ble_eq_true rfl, Nat.le_of_ble_eq_true rfl⟩ (Nat.le_of_ble_eq_true rfl) ⟨Nat.le_of_ble_eq_true rfl, Nat.le_of_ble_eq_true rfl⟩ ?_
          rintro _ _ ⟨rfl, rfl⟩
          rw [show s 9 (lvl + 1) = σ 9 (lvl + 1) from congrFun (hfr 9 (by decide) (by decide)) (lvl + 1)]
          simp only [hfr 9 (by decide) (by decide), hfr 8 (by decide) (by decide), hfr 2 (by decide) (by decide)]
          obtain ⟨v, hv⟩ : ∃ v, v = lsF (σ 2) ((rk + 1) * p2 lvl - 1) (Q.1 (rk * p2 lvl - 1)) ((σ 1 1) - 1) (fun j => σ 8 (10 * (lvl + 1) + j)) (σ 9 (lvl + 1)).toNat := ⟨_, rfl⟩
          obtain ⟨lk, hlk⟩ : ∃ v, v = lcF (Q.1 (rk * p2 lvl - 1)) ((σ 1 1) - 1) (fun j => σ 8 (10 * (lvl + 1) + j)) (σ 9 (lvl + 1)).toNat := ⟨_, rfl⟩
          rw [← hv, ← hlk] at hs
          rw [← hv, ← hlk]
          refine r_callV (tX1_setPlace G (up s 5 6 (s 5 6 + lk)) ((rk + 1) * p2 lvl - 1) v (by rw [up_nj (by decide), f5]; omega)) dX1_fillBetween_100 svX1_setPlace q287 sh5 (ci := 1) rfl rfl rfl ⟨Nat.le_of_ble_eq_true rfl, Nat.le_of_ble_eq_true rfl⟩ (Nat.le_of_ble_eq_true rfl) ⟨Nat.le_of_ble_eq_true rfl, Nat.le_of_ble_eq_true rfl⟩ ?_
          rintro _ _ ⟨rfl, rfl⟩
          rw [up_nj (show (5 : Int) ≠ 6 by decide), f5]
          refine r_iinc (lv' := [(0, Rf G 5), (1, I lvl), (2, I (σ 1 0 / p2 lvl)), (3, I (rk + 2)), (4, I ((rk + 1) * p2 lvl - 1)), (5, I (Q.1 (rk * p2 lvl - 1))), (6, I ((σ 1 1) - 1))]) dX1_fillBetween_103 (Nat.le_of_ble_eq_true rfl) rfl rfl ?_
          refine r_goto (tgt := 8) dX1_fillBetween_106 (by decide) ?_
          refine r_sub [0, 1, 2, 3] rfl ?_
          exact ih8 _ (by omega) _ (k + 1) _ rfl (by omega) (by omega) (fun a h5 h6 => by rw [up_ne h6, up_ne h5]; exact hfr a h5 h6) (by rw [up_ne (by decide), up_nj (by decide), f5]) (by rw [hs, up_ne (by decide), up_eq, f6]; simp only []; omega) (by intro x; rw [hs, up_at, up_ne (by decide)]; simp only []; by_cases q : x = (rk + 1) * p2 lvl - 1; (rw [if_pos (by omega), if_pos q]); (rw [if_neg (by omega), if_neg q]; exact hpl x))
      · skip
        refine r_iconst dX1_fillBetween_25 ?_
        refine r_goto (tgt := 45) dX1_fillBetween_26 (by decide) ?_
        refine r_istore (lv' := [(0, Rf G 5), (1, I lvl), (2, I (σ 1 0 / p2 lvl)), (3, I rk), (4, I ((rk + 1) * p2 lvl - 1)), (5, I 0)]) dX1_fillBetween_45 (Nat.le_of_ble_eq_true rfl) rfl ?_
        refine r_iload_n dX1_fillBetween_47 rfl rfl ?_
        refine r_iload_n dX1_fillBetween_48 rfl rfl ?_
        refine r_iconst dX1_fillBetween_49 ?_
        refine r_isub dX1_fillBetween_50 ?_
        refine r_icmp_ne (tgt := 66) dX1_fillBetween_51 (by decide) (by omega) (fun hb4 => ?_) (fun hb4 => ?_)
        · skip
          have r3 := rows_ok (lvl := lvl) (h := rk + 2) (by omega) hR (by omega) (by omega)
          have q3 := hQb ((rk + 2) * p2 lvl - 1)
          refine r_aload_n dX1_fillBetween_66 rfl rfl ?_
          refine r_aload_n dX1_fillBetween_67 rfl rfl ?_
          refine r_getI (z := 5) dX1_fillBetween_68 sh5 rfl (ci := 1) (j := 5) rfl (Nat.le_of_ble_eq_true rfl) rfl ixX1 q79 rfl (hv := f5) ?_
          refine r_aload_n dX1_fillBetween_71 rfl rfl ?_
          refine r_iload_n dX1_fillBetween_72 rfl rfl ?_
          refine r_iload_n dX1_fillBetween_73 rfl rfl ?_
          refine r_iconst dX1_fillBetween_74 ?_
          refine r_iadd dX1_fillBetween_75 ?_
          refine r_callV (tX1_rowAt G s lvl (rk + 1) (by omega)) dX1_fillBetween_76 svX1_rowAt q299 sh5 (ci := 1) rfl rfl rfl ⟨Nat.le_of_ble_eq_true rfl, Nat.le_of_ble_eq_true rfl⟩ (Nat.le_of_ble_eq_true rfl) ⟨Nat.le_of_ble_eq_true rfl, Nat.le_of_ble_eq_true rfl⟩ ?_
          rintro _ _ ⟨rfl, rfl⟩
          rw [show rk + 1 + 1 = rk + 2 by omega]
          refine r_callV (tX1_placeBy G s (σ 5 5) ((rk + 2) * p2 lvl - 1) (by omega)) dX1_fillBetween_79 svX1_placeBy q305 sh5 (ci := 1) rfl rfl rfl ⟨Nat.le_of_ble_eq_true rfl, Nat.le_of_ble_eq_true rfl⟩ (Nat.le_of_ble_eq_true rfl) ⟨Nat.le_of_ble_eq_true rfl, Nat.le_of_ble_eq_true rfl⟩ ?_
          rintro _ _ ⟨rfl, rfl⟩
          rw [show s 6 (10 * (σ 5 5) + ((rk + 2) * p2 lvl - 1)) = Q.1 ((rk + 2) * p2 lvl - 1) from hpl _]
          refine r_istore (lv' := [(0, Rf G 5), (1, I lvl), (2, I (σ 1 0 / p2 lvl)), (3, I rk), (4, I ((rk + 1) * p2 lvl - 1)), (5, I 0), (6, I (Q.1 ((rk + 2) * p2 lvl - 1)))]) dX1_fillBetween_82 (Nat.le_of_ble_eq_true rfl) rfl ?_
          have hs := flF_s (first := 0) (last := Q.1 ((rk + 2) * p2 lvl - 1)) hk.1 hQ hrk (by first | rw [if_pos (show rk = 0 by omega)] | rw [if_neg (show ¬ rk = 0 by omega)]) (by first | rw [if_pos (show rk + 1 < σ 1 0 / p2 lvl by omega)] | rw [if_neg (show ¬ rk + 1 < σ 1 0 / p2 lvl by omega)])
          refine r_aload_n dX1_fillBetween_84 rfl rfl ?_
          refine r_iload dX1_fillBetween_85 rfl ?_
          refine r_aload_n dX1_fillBetween_87 rfl rfl ?_
          refine r_iload dX1_fillBetween_88 rfl ?_
          refine r_iload_n dX1_fillBetween_90 rfl rfl ?_
          refine r_iconst dX1_fillBetween_91 ?_
          refine r_iadd dX1_fillBetween_92 ?_
          refine r_iload dX1_fillBetween_93 rfl ?_
          refine r_iload dX1_fillBetween_95 rfl ?_
          refine r_callV (tX1_leftmostLeast G s ((rk + 1) * p2 lvl - 1) (lvl + 1) 0 (Q.1 ((rk + 2) * p2 lvl - 1)) (by omega) (by rw [hfr 9 (by decide) (by decide)]; exact hn) (by rw [hfr 9 (by decide) (by decide), hfr 8 (by decide) (by decide)]; exact hcol) (by rw [hfr 2 (by decide) (by decide)]; exact hT)) dX1_fillBetween_97 svX1_leftmostLeast q273 sh5 (ci := 1) rfl rfl rfl ⟨Nat.le_of_ble_eq_true rfl, Nat.le_of_ble_eq_true rfl⟩ (Nat.le_of_ble_eq_true rfl) ⟨Nat.le_of_ble_eq_true rfl, Nat.le_of_ble_eq_true rfl⟩ ?_
          rintro _ _ ⟨rfl, rfl⟩
          rw [show s 9 (lvl + 1) = σ 9 (lvl + 1) from congrFun (hfr 9 (by decide) (by decide)) (lvl + 1)]
          simp only [hfr 9 (by decide) (by decide), hfr 8 (by decide) (by decide), hfr 2 (by decide) (by decide)]
          obtain ⟨v, hv⟩ : ∃ v, v = lsF (σ 2) ((rk + 1) * p2 lvl - 1) 0 (Q.1 ((rk + 2) * p2 lvl - 1)) (fun j => σ 8 (10 * (lvl + 1) + j)) (σ 9 (lvl + 1)).toNat := ⟨_, rfl⟩
          obtain ⟨lk, hlk⟩ : ∃ v, v = lcF 0 (Q.1 ((rk + 2) * p2 lvl - 1)) (fun j => σ 8 (10 * (lvl + 1) + j)) (σ 9 (lvl + 1)).toNat := ⟨_, rfl⟩
          rw [← hv, ← hlk] at hs
          rw [← hv, ← hlk]
          refine r_callV (tX1_setPlace G (up s 5 6 (s 5 6 + lk)) ((rk + 1) * p2 lvl - 1) v (by rw [up_nj (by decide), f5]; omega)) dX1_fillBetween_100 svX1_setPlace q287 sh5 (ci := 1) rfl rfl rfl ⟨Nat.le_of_ble_eq_true rfl, Nat.le_of_ble_eq_true rfl⟩ (Nat.le_of_ble_eq_true rfl) ⟨Nat.le_of_ble_eq_true rfl, Nat.le_of_ble_eq_true rfl⟩ ?_
          rintro _ _ ⟨rfl, rfl⟩
          rw [up_nj (show (5 : Int) ≠ 6 by decide), f5]
          refine r_iinc (lv' := [(0, Rf G 5), (1, I lvl), (2, I (σ 1 0 / p2 lvl)), (3, I (rk + 2)), (4, I ((rk + 1) * p2 lvl - 1)), (5, I 0), (6, I (Q.1 ((rk + 2) * p2 lvl - 1)))]) dX1_fillBetween_103 (Nat.le_of_ble_eq_true rfl) rfl rfl ?_
          refine r_goto (tgt := 8) dX1_fillBetween_106 (by decide) ?_
          refine r_sub [0, 1, 2, 3] rfl ?_
          exact ih8 _ (by omega) _ (k + 1) _ rfl (by omega) (by omega) (fun a h5 h6 => by rw [up_ne h6, up_ne h5]; exact hfr a h5 h6) (by rw [up_ne (by decide), up_nj (by decide), f5]) (by rw [hs, up_ne (by decide), up_eq, f6]; simp only []; omega) (by intro x; rw [hs, up_at, up_ne (by decide)]; simp only []; by_cases q : x = (rk + 1) * p2 lvl - 1; (rw [if_pos (by omega), if_pos q]); (rw [if_neg (by omega), if_neg q]; exact hpl x))
        · skip
          refine r_aload_n dX1_fillBetween_54 rfl rfl ?_
          refine r_getR (b := 1) dX1_fillBetween_55 sh5 rfl (ci := 1) (j := 0) rfl (Nat.le_of_ble_eq_true rfl) ixX1 q74 rfl ?_
          refine r_getI (z := 1) dX1_fillBetween_58 sh1 rfl (ci := 5) (j := 1) rfl (Nat.le_of_ble_eq_true rfl) rfl ixX5 q38 rfl (hv := congrFun (hfr 1 (by decide) (by decide)) 1) ?_
          refine r_iconst dX1_fillBetween_61 ?_
          refine r_isub dX1_fillBetween_62 ?_
          refine r_goto (tgt := 82) dX1_fillBetween_63 (by decide) ?_
          refine r_istore (lv' := [(0, Rf G 5), (1, I lvl), (2, I (σ 1 0 / p2 lvl)), (3, I rk), (4, I ((rk + 1) * p2 lvl - 1)), (5, I 0), (6, I ((σ 1 1) - 1))]) dX1_fillBetween_82 (Nat.le_of_ble_eq_true rfl) rfl ?_
          have hs := flF_s (first := 0) (last := (σ 1 1) - 1) hk.1 hQ hrk (by first | rw [if_pos (show rk = 0 by omega)] | rw [if_neg (show ¬ rk = 0 by omega)]) (by first | rw [if_pos (show rk + 1 < σ 1 0 / p2 lvl by omega)] | rw [if_neg (show ¬ rk + 1 < σ 1 0 / p2 lvl by omega)])
          refine r_aload_n dX1_fillBetween_84 rfl rfl ?_
          refine r_iload dX1_fillBetween_85 rfl ?_
          refine r_aload_n dX1_fillBetween_87 rfl rfl ?_
          refine r_iload dX1_fillBetween_88 rfl ?_
          refine r_iload_n dX1_fillBetween_90 rfl rfl ?_
          refine r_iconst dX1_fillBetween_91 ?_
          refine r_iadd dX1_fillBetween_92 ?_
          refine r_iload dX1_fillBetween_93 rfl ?_
          refine r_iload dX1_fillBetween_95 rfl ?_
          refine r_callV (tX1_leftmostLeast G s ((rk + 1) * p2 lvl - 1) (lvl + 1) 0 ((σ 1 1) - 1) (by omega) (by rw [hfr 9 (by decide) (by decide)]; exact hn) (by rw [hfr 9 (by decide) (by decide), hfr 8 (by decide) (by decide)]; exact hcol) (by rw [hfr 2 (by decide) (by decide)]; exact hT)) dX1_fillBetween_97 svX1_leftmostLeast q273 sh5 (ci := 1) rfl rfl rfl ⟨Nat.le_of_ble_eq_true rfl, Nat.le_of_ble_eq_true rfl⟩ (Nat.le_of_ble_eq_true rfl) ⟨Nat.le_of_ble_eq_true rfl, Nat.le_of_ble_eq_true rfl⟩ ?_
          rintro _ _ ⟨rfl, rfl⟩
          rw [show s 9 (lvl + 1) = σ 9 (lvl + 1) from congrFun (hfr 9 (by decide) (by decide)) (lvl + 1)]
          simp only [hfr 9 (by decide) (by decide), hfr 8 (by decide) (by decide), hfr 2 (by decide) (by decide)]
          obtain ⟨v, hv⟩ : ∃ v, v = lsF (σ 2) ((rk + 1) * p2 lvl - 1) 0 ((σ 1 1) - 1) (fun j => σ 8 (10 * (lvl + 1) + j)) (σ 9 (lvl + 1)).toNat := ⟨_, rfl⟩
          obtain ⟨lk, hlk⟩ : ∃ v, v = lcF 0 ((σ 1 1) - 1) (fun j => σ 8 (10 * (lvl + 1) + j)) (σ 9 (lvl + 1)).toNat := ⟨_, rfl⟩
          rw [← hv, ← hlk] at hs
          rw [← hv, ← hlk]
          refine r_callV (tX1_setPlace G (up s 5 6 (s 5 6 + lk)) ((rk + 1) * p2 lvl - 1) v (by rw [up_nj (by decide), f5]; omega)) dX1_fillBetween_100 svX1_setPlace q287 sh5 (ci := 1) rfl rfl rfl ⟨Nat.le_of_ble_eq_true rfl, Nat.le_of_ble_eq_true rfl⟩ (Nat.le_of_ble_eq_true rfl) ⟨Nat.le_of_ble_eq_true rfl, Nat.le_of_ble_eq_true rfl⟩ ?_
          rintro _ _ ⟨rfl, rfl⟩
          rw [up_nj (show (5 : Int) ≠ 6 by decide), f5]
          refine r_iinc (lv' := [(0, Rf G 5), (1, I lvl), (2, I (σ 1 0 / p2 lvl)), (3, I (rk + 2)), (4, I ((rk + 1) * p2 lvl - 1)), (5, I 0), (6, I ((σ 1 1) - 1))]) dX1_fillBetween_103 (Nat.le_of_ble_eq_true rfl) rfl rfl ?_
          refine r_goto (tgt := 8) dX1_fillBetween_106 (by decide) ?_
          refine r_sub [0, 1, 2, 3] rfl ?_
          exact ih8 _ (by omega) _ (k + 1) _ rfl (by omega) (by omega) (fun a h5 h6 => by rw [up_ne h6, up_ne h5]; exact hfr a h5 h6) (by rw [up_ne (by decide), up_nj (by decide), f5]) (by rw [hs, up_ne (by decide), up_eq, f6]; simp only []; omega) (by intro x; rw [hs, up_at, up_ne (by decide)]; simp only []; by_cases q : x = (rk + 1) * p2 lvl - 1; (rw [if_pos (by omega), if_pos q]); (rw [if_neg (by omega), if_neg q]; exact hpl x))
  exact L8 _ 0 0 _ rfl (by omega) (rfl) (fun _ _ _ => rfl) (rfl) ((Int.add_zero _).symm) (fun _ => rfl)
