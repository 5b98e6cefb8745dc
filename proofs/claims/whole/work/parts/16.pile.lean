
/-- throwing the tops out: the height that is left, the looks -/
def thF (T : Int → Int) (lvl : Int) (f : Int → Int) (col : Int) : Nat → Int × Int
  | 0 => (0, 0)
  | h + 1 => if T (10 * (((h + 1 : Nat) : Int) * p2 lvl - 1) + f (h : Int)) ≤ T (10 * (((h + 1 : Nat) : Int) * p2 lvl - 1) + col) then (((h + 1 : Nat) : Int), 2) else ((thF T lvl f col h).1, (thF T lvl f col h).2 + 2)
theorem thF_y {T : Int → Int} {lvl col : Int} {f : Int → Int} {h : Int} (h0 : 1 ≤ h) (v : T (10 * (h * p2 lvl - 1) + f (h - 1)) ≤ T (10 * (h * p2 lvl - 1) + col)) : thF T lvl f col h.toNat = (h, 2) := by
  obtain ⟨k, rfl⟩ : ∃ k : Nat, h = ((k + 1 : Nat) : Int) := ⟨(h - 1).toNat, by omega⟩
  rw [show (((k + 1 : Nat) : Int)).toNat = k + 1 by omega]
  rw [show ((k + 1 : Nat) : Int) - 1 = (k : Int) by omega] at v
  simp only [thF]
  rw [if_pos v]
theorem thF_n {T : Int → Int} {lvl col : Int} {f : Int → Int} {h : Int} (h0 : 1 ≤ h) (v : ¬ T (10 * (h * p2 lvl - 1) + f (h - 1)) ≤ T (10 * (h * p2 lvl - 1) + col)) : thF T lvl f col h.toNat = ((thF T lvl f col (h - 1).toNat).1, (thF T lvl f col (h - 1).toNat).2 + 2) := by
  obtain ⟨k, rfl⟩ : ∃ k : Nat, h = ((k + 1 : Nat) : Int) := ⟨(h - 1).toNat, by omega⟩
  rw [show (((k + 1 : Nat) : Int)).toNat = k + 1 by omega]
  rw [show ((k + 1 : Nat) : Int) - 1 = (k : Int) by omega] at v ⊢
  rw [show ((k : Nat) : Int).toNat = k by omega]
  simp only [thF]
  rw [if_neg v]
theorem thF_bd {T : Int → Int} {lvl col : Int} {f : Int → Int} : ∀ h : Nat, 0 ≤ (thF T lvl f col h).1 ∧ (thF T lvl f col h).1 ≤ h
  | 0 => ⟨Int.le_refl _, Int.le_refl _⟩
  | h + 1 => by
    have := thF_bd (T := T) (lvl := lvl) (col := col) (f := f) h
    simp only [thF]
    split
    · simp only []; omega
    · simp only []; omega
theorem thF_c {T : Int → Int} {lvl col : Int} {f g : Int → Int} : ∀ h : Nat, (∀ j : Int, 0 ≤ j → j < h → f j = g j) → thF T lvl f col h = thF T lvl g col h
  | 0, _ => rfl
  | h + 1, hv => by
    have ih := thF_c (T := T) (lvl := lvl) (col := col) (f := f) (g := g) h (fun j a b => hv j a (by omega))
    simp only [thF]
    rw [ih, hv h (by omega) (by omega)]
/-- the pile of a level, after some of the columns given: the list, how many, the looks -/
def plF (T : Int → Int) (lvl N : Int) (src : Int → Int) : Nat → (Int → Int) × Int × Int
  | 0 => (fun _ => 0, 0, 0)
  | k + 1 => if (thF T lvl (plF T lvl N src k).1 (src (k : Int)) (plF T lvl N src k).2.1.toNat).1 < N
      then (fun j => if j = (thF T lvl (plF T lvl N src k).1 (src (k : Int)) (plF T lvl N src k).2.1.toNat).1 then src (k : Int) else (plF T lvl N src k).1 j,
        (thF T lvl (plF T lvl N src k).1 (src (k : Int)) (plF T lvl N src k).2.1.toNat).1 + 1, (plF T lvl N src k).2.2 + (thF T lvl (plF T lvl N src k).1 (src (k : Int)) (plF T lvl N src k).2.1.toNat).2)
      else ((plF T lvl N src k).1, (thF T lvl (plF T lvl N src k).1 (src (k : Int)) (plF T lvl N src k).2.1.toNat).1, (plF T lvl N src k).2.2 + (thF T lvl (plF T lvl N src k).1 (src (k : Int)) (plF T lvl N src k).2.1.toNat).2)
theorem plF_s {T : Int → Int} {lvl N : Int} {src : Int → Int} {i : Int} (hi : 0 ≤ i) {t : Int × Int} (ht : t = thF T lvl (plF T lvl N src i.toNat).1 (src i) (plF T lvl N src i.toNat).2.1.toNat) :
    plF T lvl N src (i + 1).toNat = if t.1 < N then (fun j => if j = t.1 then src i else (plF T lvl N src i.toNat).1 j, t.1 + 1, (plF T lvl N src i.toNat).2.2 + t.2) else ((plF T lvl N src i.toNat).1, t.1, (plF T lvl N src i.toNat).2.2 + t.2) := by
  subst ht
  rw [toNat_s hi]; simp only [plF]; rw [Int.toNat_of_nonneg hi]
theorem plF_bd {T : Int → Int} {lvl N : Int} {src : Int → Int} (hN : 0 ≤ N) : ∀ k : Nat, 0 ≤ (plF T lvl N src k).2.1 ∧ (plF T lvl N src k).2.1 ≤ N
  | 0 => ⟨Int.le_refl _, hN⟩
  | k + 1 => by
    have ih := plF_bd (T := T) (lvl := lvl) (src := src) hN k
    have ht := thF_bd (T := T) (lvl := lvl) (col := src (k : Int)) (f := (plF T lvl N src k).1) (plF T lvl N src k).2.1.toNat
    simp only [plF]
    split
    · simp only []; omega
    · simp only []; omega
theorem plF_mem {T : Int → Int} {lvl N : Int} {src : Int → Int} : ∀ (k : Nat) (j : Int), 0 ≤ j → j < (plF T lvl N src k).2.1 → ∃ i : Int, 0 ≤ i ∧ i < k ∧ (plF T lvl N src k).1 j = src i
  | 0, j, h0, h => by
    have h : j < 0 := h
    omega
  | k + 1, j, h0, h => by
    have ht := thF_bd (T := T) (lvl := lvl) (col := src (k : Int)) (f := (plF T lvl N src k).1) (plF T lvl N src k).2.1.toNat
    simp only [plF] at h ⊢
    by_cases c : (thF T lvl (plF T lvl N src k).1 (src (k : Int)) (plF T lvl N src k).2.1.toNat).1 < N
    · rw [if_pos c] at h ⊢
      simp only [] at h ⊢
      by_cases e : j = (thF T lvl (plF T lvl N src k).1 (src (k : Int)) (plF T lvl N src k).2.1.toNat).1
      · rw [if_pos e]; exact ⟨k, by omega, by omega, rfl⟩
      · rw [if_neg e]
        obtain ⟨i, a, b, d⟩ := plF_mem (T := T) (lvl := lvl) (N := N) (src := src) k j h0 (by omega)
        exact ⟨i, a, by omega, d⟩
    · rw [if_neg c] at h ⊢
      simp only [] at h ⊢
      obtain ⟨i, a, b, d⟩ := plF_mem (T := T) (lvl := lvl) (N := N) (src := src) k j h0 (by omega)
      exact ⟨i, a, by omega, d⟩
theorem plF_c {T : Int → Int} {lvl N : Int} {f g : Int → Int} : ∀ k : Nat, (∀ j : Int, 0 ≤ j → j < k → f j = g j) → plF T lvl N f k = plF T lvl N g k
  | 0, _ => rfl
  | k + 1, hv => by
    have ih := plF_c (T := T) (lvl := lvl) (N := N) (f := f) (g := g) k (fun j a b => hv j a (by omega))
    simp only [plF]
    rw [ih, hv k (by omega) (by omega)]
theorem plF_N0 {T : Int → Int} {lvl : Int} {src : Int → Int} : ∀ k : Nat, (plF T lvl 0 src k).2 = (0, 0)
  | 0 => rfl
  | k + 1 => by
    have ih := plF_N0 (T := T) (lvl := lvl) (src := src) k
    simp only [plF, ih]
    rfl

set_option maxHeartbeats 4000000 in
set_option maxRecDepth 100000 in
theorem tX1_heightAfterThrowing (G : GT) (σ : Sg) (lvl pd col : Int) (h : 0 ≤ lvl ∧ lvl ≤ 3 ∧ 0 ≤ pd ∧ pd ≤ 10 ∧ 0 ≤ col ∧ col < 10) (hr : ∀ h, 1 ≤ h → h ≤ pd → 1 ≤ h * p2 lvl ∧ h * p2 lvl ≤ 10) (hf : ∀ j, 0 ≤ j → j < pd → 0 ≤ σ 8 (10 * (lvl + 1) + j) ∧ σ 8 (10 * (lvl + 1) + j) < 10) (hT : ∀ i, 0 ≤ σ 2 i ∧ σ 2 i ≤ 9999) : Ct G mX1_heightAfterThrowing 3 0 0 false SH SH [Rf G 5, I lvl, I pd, I col] σ (fun rv sv => some (I ((thF (σ 2) lvl (fun j => σ 8 (10 * (lvl + 1) + j)) col pd.toNat).1)) = rv ∧ up σ 5 6 (σ 5 6 + (thF (σ 2) lvl (fun j => σ 8 (10 * (lvl + 1) + j)) col pd.toNat).2) = sv) := by
  obtain ⟨P, hP⟩ : ∃ P : Option Value → Sg → Prop, P = (fun rv sv => some (I ((thF (σ 2) lvl (fun j => σ 8 (10 * (lvl + 1) + j)) col pd.toNat).1)) = rv ∧ up σ 5 6 (σ 5 6 + (thF (σ 2) lvl (fun j => σ 8 (10 * (lvl + 1) + j)) col pd.toNat).2) = sv) := ⟨_, rfl⟩
  rw [← hP]
  refine ct_of (lv := [(0, Rf G 5), (1, I lvl), (2, I pd), (3, I col)]) (by decide +kernel) (Nat.le_of_ble_eq_true rfl) rfl ?_
  refine r_iload_n dX1_heightAfterThrowing_0 rfl rfl ?_
  refine r_istore (lv' := [(0, Rf G 5), (1, I lvl), (2, I pd), (3, I col), (4, I pd)]) dX1_heightAfterThrowing_1 (Nat.le_of_ble_eq_true rfl) rfl ?_
  have L3 : ∀ (mm : Nat) (hh acc : Int) (s : Sg), hh.toNat = mm → (hi : 0 ≤ hh ∧ hh ≤ pd) → (ha : thF (σ 2) lvl (fun j => σ 8 (10 * (lvl + 1) + j)) col pd.toNat = ((thF (σ 2) lvl (fun j => σ 8 (10 * (lvl + 1) + j)) col hh.toNat).1, acc + (thF (σ 2) lvl (fun j => σ 8 (10 * (lvl + 1) + j)) col hh.toNat).2)) → (hS : s = up σ 5 6 (σ 5 6 + acc)) → Rn G mX1_heightAfterThrowing (rmD 3 0 0) E0 (Zn G false SH P 0 0) false SH 0 0 3 [(0, Rf G 5), (1, I lvl), (2, I pd), (3, I col), (4, I hh)] [] s := by
    intro mm
    induction mm using Nat.strongRecOn with
    | _ mm ih3 =>
    intro hh acc s hm3 hi ha hS
    have e2 : s 2 = σ 2 := by rw [hS, up_ne (by decide)]
    have e8 : s 8 = σ 8 := by rw [hS, up_ne (by decide)]
    have f6 : s 5 6 = σ 5 6 + acc := by rw [hS, up_eq]
    refine r_iload dX1_heightAfterThrowing_3 rfl ?_
    refine r_if_le (tgt := 63) dX1_heightAfterThrowing_5 (by decide) (by omega) (fun hb1 => ?_) (fun hb1 => ?_)
    · skip
      refine r_iconst dX1_heightAfterThrowing_63 ?_
      exact r_iret dX1_heightAfterThrowing_64 rfl (by rw [hP]; exact ⟨by rw [ha, show hh = 0 by omega]; rfl, by rw [ha, show hh = 0 by omega, hS]; show up σ 5 6 (σ 5 6 + (acc + 0)) = _; rw [Int.add_zero]⟩)
    · skip
      have hrr := hr hh (by omega) (by omega)
      have hff := hf (hh - 1) (by omega) (by omega)
      have b1 := hT (10 * (hh * p2 lvl - 1) + σ 8 (10 * (lvl + 1) + (hh - 1)))
      have b2 := hT (10 * (hh * p2 lvl - 1) + col)
      refine r_aload_n dX1_heightAfterThrowing_8 rfl rfl ?_
      refine r_iload_n dX1_heightAfterThrowing_9 rfl rfl ?_
      refine r_iload dX1_heightAfterThrowing_10 rfl ?_
      refine r_iconst dX1_heightAfterThrowing_12 ?_
      refine r_isub dX1_heightAfterThrowing_13 ?_
      refine r_callV (tX1_rowAt G s lvl (hh - 1) (by omega)) dX1_heightAfterThrowing_14 svX1_rowAt q268 sh5 (ci := 1) rfl rfl rfl ⟨Nat.le_of_ble_eq_true rfl, Nat.le_of_ble_eq_true rfl⟩ (Nat.le_of_ble_eq_true rfl) ⟨Nat.le_of_ble_eq_true rfl, Nat.le_of_ble_eq_true rfl⟩ ?_
      rintro _ _ ⟨rfl, rfl⟩
      rw [show hh - 1 + 1 = hh by omega]
      refine r_istore (lv' := [(0, Rf G 5), (1, I lvl), (2, I pd), (3, I col), (4, I hh), (5, I (hh * p2 lvl - 1))]) dX1_heightAfterThrowing_17 (Nat.le_of_ble_eq_true rfl) rfl ?_
      refine r_aload_n dX1_heightAfterThrowing_19 rfl rfl ?_
      refine r_iload dX1_heightAfterThrowing_20 rfl ?_
      refine r_aload_n dX1_heightAfterThrowing_22 rfl rfl ?_
      refine r_iload_n dX1_heightAfterThrowing_23 rfl rfl ?_
      refine r_iconst dX1_heightAfterThrowing_24 ?_
      refine r_iadd dX1_heightAfterThrowing_25 ?_
      refine r_iload dX1_heightAfterThrowing_26 rfl ?_
      refine r_iconst dX1_heightAfterThrowing_28 ?_
      refine r_isub dX1_heightAfterThrowing_29 ?_
      refine r_callV (tX1_columnLeft G s (lvl + 1) (hh - 1) (by omega)) dX1_heightAfterThrowing_30 svX1_columnLeft q248 sh5 (ci := 1) rfl rfl rfl ⟨Nat.le_of_ble_eq_true rfl, Nat.le_of_ble_eq_true rfl⟩ (Nat.le_of_ble_eq_true rfl) ⟨Nat.le_of_ble_eq_true rfl, Nat.le_of_ble_eq_true rfl⟩ ?_
      rintro _ _ ⟨rfl, rfl⟩
      rw [show s 8 (10 * (lvl + 1) + (hh - 1)) = σ 8 (10 * (lvl + 1) + (hh - 1)) from congrFun (e8) (10 * (lvl + 1) + (hh - 1))]
      refine r_callV (tX1_look G s (hh * p2 lvl - 1) (σ 8 (10 * (lvl + 1) + (hh - 1))) (by omega)) dX1_heightAfterThrowing_33 svX1_look q252 sh5 (ci := 1) rfl rfl rfl ⟨Nat.le_of_ble_eq_true rfl, Nat.le_of_ble_eq_true rfl⟩ (Nat.le_of_ble_eq_true rfl) ⟨Nat.le_of_ble_eq_true rfl, Nat.le_of_ble_eq_true rfl⟩ ?_
      rintro _ _ ⟨rfl, rfl⟩
      rw [show s 2 (10 * (hh * p2 lvl - 1) + (σ 8 (10 * (lvl + 1) + (hh - 1)))) = σ 2 (10 * (hh * p2 lvl - 1) + (σ 8 (10 * (lvl + 1) + (hh - 1)))) from congrFun (e2) (10 * (hh * p2 lvl - 1) + (σ 8 (10 * (lvl + 1) + (hh - 1))))]
      refine r_istore (lv' := [(0, Rf G 5), (1, I lvl), (2, I pd), (3, I col), (4, I hh), (5, I (hh * p2 lvl - 1)), (6, I (σ 2 (10 * (hh * p2 lvl - 1) + (σ 8 (10 * (lvl + 1) + (hh - 1))))))]) dX1_heightAfterThrowing_36 (Nat.le_of_ble_eq_true rfl) rfl ?_
      refine r_aload_n dX1_heightAfterThrowing_38 rfl rfl ?_
      refine r_iload dX1_heightAfterThrowing_39 rfl ?_
      refine r_iload_n dX1_heightAfterThrowing_41 rfl rfl ?_
      refine r_callV (tX1_look G (up s 5 6 (s 5 6 + 1)) (hh * p2 lvl - 1) col (by omega)) dX1_heightAfterThrowing_42 svX1_look q252 sh5 (ci := 1) rfl rfl rfl ⟨Nat.le_of_ble_eq_true rfl, Nat.le_of_ble_eq_true rfl⟩ (Nat.le_of_ble_eq_true rfl) ⟨Nat.le_of_ble_eq_true rfl, Nat.le_of_ble_eq_true rfl⟩ ?_
      rintro _ _ ⟨rfl, rfl⟩
      rw [show (up s 5 6 (s 5 6 + 1)) 2 (10 * (hh * p2 lvl - 1) + col) = σ 2 (10 * (hh * p2 lvl - 1) + col) from (congrFun (up_ne (by decide)) (10 * (hh * p2 lvl - 1) + col)).trans (congrFun (e2) (10 * (hh * p2 lvl - 1) + col))]
      refine r_istore (lv' := [(0, Rf G 5), (1, I lvl), (2, I pd), (3, I col), (4, I hh), (5, I (hh * p2 lvl - 1)), (6, I (σ 2 (10 * (hh * p2 lvl - 1) + (σ 8 (10 * (lvl + 1) + (hh - 1)))))), (7, I (σ 2 (10 * (hh * p2 lvl - 1) + col)))]) dX1_heightAfterThrowing_45 (Nat.le_of_ble_eq_true rfl) rfl ?_
      refine r_iload dX1_heightAfterThrowing_47 rfl ?_
      refine r_iload dX1_heightAfterThrowing_49 rfl ?_
      refine r_icmp_gt (tgt := 57) dX1_heightAfterThrowing_51 (by decide) (by omega) (fun hb2 => ?_) (fun hb2 => ?_)
      · skip
        refine r_iinc (lv' := [(0, Rf G 5), (1, I lvl), (2, I pd), (3, I col), (4, I (hh + (-1))), (5, I (hh * p2 lvl - 1)), (6, I (σ 2 (10 * (hh * p2 lvl - 1) + (σ 8 (10 * (lvl + 1) + (hh - 1)))))), (7, I (σ 2 (10 * (hh * p2 lvl - 1) + col)))]) dX1_heightAfterThrowing_57 (Nat.le_of_ble_eq_true rfl) rfl rfl ?_
        refine r_goto (tgt := 3) dX1_heightAfterThrowing_60 (by decide) ?_
        refine r_sub [0, 1, 2, 3, 4] rfl ?_
        exact ih3 _ (by omega) (hh + (-1)) (acc + 2) _ rfl (by omega) (by rw [ha, thF_n (by omega) (by omega), show hh + -1 = hh - 1 by omega]; simp only []; rw [Prod.mk.injEq]; exact ⟨rfl, by omega⟩) (by rw [up_eq, f6, hS, up_twice, up_twice]; congr 1; omega)
      · skip
        refine r_iload dX1_heightAfterThrowing_54 rfl ?_
        exact r_iret dX1_heightAfterThrowing_56 rfl (by rw [hP]; exact ⟨by rw [ha, thF_y (by omega) (by omega)], by rw [ha, thF_y (by omega) (by omega), up_eq, f6, hS, up_twice, up_twice]; simp only []; congr 1; omega⟩)
  exact L3 _ _ 0 _ rfl (by omega) (by rw [Int.zero_add]) (by rw [Int.add_zero, up_id rfl])
