variable {Ω : List Ob}

/-- throwing the tops out: the height that is left, the looks -/
def thF (T : Int → Int) (lvl : Int) (f : Int → Int) (col : Int) : Nat → Int × Int
  | 0 => (0, 0)
  | h + 1 => if T (10 * (((h + 1 : Nat) : Int) * p2 lvl - 1) + f (h : Int)) ≤ T (10 * (((h + 1 : Nat) : Int) * p2 lvl - 1) + col) then (((h + 1 : Nat) : Int), 2) else ((thF T lvl f col h).1, (thF T lvl f col h).2 + 2)
theorem thF_y {T : Int → Int} {lvl col : Int} {f : Int → Int} {h : Int} (h0 : 1 ≤ h) (v : T (10 * (h * p2 lvl - 1) + f (h - 1)) ≤ T (10 * (h * p2 lvl - 1) + col)) : thF T lvl f col h.toNat = (h, 2) := by
  obtain ⟨k, rfl⟩ : ∃ k : Nat, h = ((k + 1 : Nat) : Int) := ⟨(h - 1).toNat, by omega⟩
  rw [show (((k + 1 : Nat) : Int)).toNat = k + 1 by omega]
  rw [show ((k + 1 : Nat) : Int) - 1 = (k : Int) by omega] at v
  simp only [thF]
  rw [if_pos v]
theorem thF_n {T : Int → Int} {lvl col : Int} {f : Int → Int} {h : Int} (h0 : 1 ≤ h) (v : ¬ T (10 * (h * p2 lvl - 1) + f (h - 1)) ≤ T (10 * (h * p2 lvl - 1) + col)) : thF T lvl f col h.toNat = ((thF T lvl f col (h - 1).toNat).1, (thF T lvl f col (h - 1).toNat).2 + 2) := by
  obtain ⟨k, rfl⟩ : ∃ k : Nat, h = ((k + 1 : Nat) : Int) := ⟨(h - 1).toNat, by omega⟩
  rw [show (((k + 1 : Nat) : Int)).toNat = k + 1 by omega]
  rw [show ((k + 1 : Nat) : Int) - 1 = (k : Int) by omega] at v ⊢
  rw [show ((k : Nat) : Int).toNat = k by omega]
  simp only [thF]
  rw [if_neg v]
theorem thF_bd {T : Int → Int} {lvl col : Int} {f : Int → Int} : ∀ h : Nat, 0 ≤ (thF T lvl f col h).1 ∧ (thF T lvl f col h).1 ≤ h
  | 0 => ⟨Int.le_refl _, Int.le_refl _⟩
  | h + 1 => by
    have := thF_bd (T := T) (lvl := lvl) (col := col) (f := f) h
    simp only [thF]
    split
    · simp only []; omega
    · simp only []; omega
theorem thF_c {T : Int → Int} {lvl col : Int} {f g : Int → Int} : ∀ h : Nat, (∀ j : Int, 0 ≤ j → j < h → f j = g j) → thF T lvl f col h = thF T lvl g col h
  | 0, _ => rfl
  | h + 1, hv => by
    have ih := thF_c (T := T) (lvl := lvl) (col := col) (f := f) (g := g) h (fun j a b => hv j a (by omega))
    simp only [thF]
    rw [ih, hv h (by omega) (by omega)]
/-- the pile of a level, after some of the columns given: the list, how many, the looks -/
def plF (T : Int → Int) (lvl N : Int) (src : Int → Int) : Nat → (Int → Int) × Int × Int
  | 0 => (fun _ => 0, 0, 0)
  | k + 1 => if (thF T lvl (plF T lvl N src k).1 (src (k : Int)) (plF T lvl N src k).2.1.toNat).1 < N
      then (fun j => if j = (thF T lvl (plF T lvl N src k).1 (src (k : Int)) (plF T lvl N src k).2.1.toNat).1 then src (k : Int) else (plF T lvl N src k).1 j,
        (thF T lvl (plF T lvl N src k).1 (src (k : Int)) (plF T lvl N src k).2.1.toNat).1 + 1, (plF T lvl N src k).2.2 + (thF T lvl (plF T lvl N src k).1 (src (k : Int)) (plF T lvl N src k).2.1.toNat).2)
      else ((plF T lvl N src k).1, (thF T lvl (plF T lvl N src k).1 (src (k : Int)) (plF T lvl N src k).2.1.toNat).1, (plF T lvl N src k).2.2 + (thF T lvl (plF T lvl N src k).1 (src (k : Int)) (plF T lvl N src k).2.1.toNat).2)
theorem plF_s {T : Int → Int} {lvl N : Int} {src : Int → Int} {i : Int} (hi : 0 ≤ i) {t : Int × Int} (ht : t = thF T lvl (plF T lvl N src i.toNat).1 (src i) (plF T lvl N src i.toNat).2.1.toNat) :
    plF T lvl N src (i + 1).toNat = if t.1 < N then (fun j => if j = t.1 then src i else (plF T lvl N src i.toNat).1 j, t.1 + 1, (plF T lvl N src i.toNat).2.2 + t.2) else ((plF T lvl N src i.toNat).1, t.1, (plF T lvl N src i.toNat).2.2 + t.2) := by
  subst ht
  rw [toNat_s hi]; simp only [plF]; rw [Int.toNat_of_nonneg hi]
theorem plF_bd {T : Int → Int} {lvl N : Int} {src : Int → Int} (hN : 0 ≤ N) : ∀ k : Nat, 0 ≤ (plF T lvl N src k).2.1 ∧ (plF T lvl N src k).2.1 ≤ N
  | 0 => ⟨Int.le_refl _, hN⟩
  | k + 1 => by
    have ih := plF_bd (T := T) (lvl := lvl) (src := src) hN k
    have ht := thF_bd (T := T) (lvl := lvl) (col := src (k : Int)) (f := (plF T lvl N src k).1) (plF T lvl N src k).2.1.toNat
    simp only [plF]
    split
    · simp only []; omega
    · simp only []; omega
theorem plF_mem {T : Int → Int} {lvl N : Int} {src : Int → Int} : ∀ (k : Nat) (j : Int), 0 ≤ j → j < (plF T lvl N src k).2.1 → ∃ i : Int, 0 ≤ i ∧ i < k ∧ (plF T lvl N src k).1 j = src i
  | 0, j, h0, h => by
    have h : j < 0 := h
    omega
  | k + 1, j, h0, h => by
    have ht := thF_bd (T := T) (lvl := lvl) (col := src (k : Int)) (f := (plF T lvl N src k).1) (plF T lvl N src k).2.1.toNat
    simp only [plF] at h ⊢
    by_cases c : (thF T lvl (plF T lvl N src k).1 (src (k : Int)) (plF T lvl N src k).2.1.toNat).1 < N
    · rw [if_pos c] at h ⊢
      simp only [] at h ⊢
      by_cases e : j = (thF T lvl (plF T lvl N src k).1 (src (k : Int)) (plF T lvl N src k).2.1.toNat).1
      · rw [if_pos e]; exact ⟨k, by omega, by omega, rfl⟩
      · rw [if_neg e]
        obtain ⟨i, a, b, d⟩ := plF_mem (T := T) (lvl := lvl) (N := N) (src := src) k j h0 (by omega)
        exact ⟨i, a, by omega, d⟩
    · rw [if_neg c] at h ⊢
      simp only [] at h ⊢
      obtain ⟨i, a, b, d⟩ := plF_mem (T := T) (lvl := lvl) (N := N) (src := src) k j h0 (by omega)
      exact ⟨i, a, by omega, d⟩
theorem plF_c {T : Int → Int} {lvl N : Int} {f g : Int → Int} : ∀ k : Nat, (∀ j : Int, 0 ≤ j → j < k → f j = g j) → plF T lvl N f k = plF T lvl N g k
  | 0, _ => rfl
  | k + 1, hv => by
    have ih := plF_c (T := T) (lvl := lvl) (N := N) (f := f) (g := g) k (fun j a b => hv j a (by omega))
    simp only [plF]
    rw [ih, hv k (by omega) (by omega)]
theorem plF_N0 {T : Int → Int} {lvl : Int} {src : Int → Int} : ∀ k : Nat, (plF T lvl 0 src k).2 = (0, 0)
  | 0 => rfl
  | k + 1 => by
    have ih := plF_N0 (T := T) (lvl := lvl) (src := src) k
    simp only [plF, ih]
    rfl

set_option maxHeartbeats 1000000 in
set_option maxRecDepth 100000 in
theorem tX1_heightAfterThrowing (G : GT) (σ : Sg) (lvl pd col : Int) (h : 0 ≤ lvl ∧ lvl ≤ 3 ∧ 0 ≤ pd ∧ pd ≤ 10 ∧ 0 ≤ col ∧ col < 10) (hr : ∀ h, 1 ≤ h → h ≤ pd → 1 ≤ h * p2 lvl ∧ h * p2 lvl ≤ 10) (hf : ∀ j, 0 ≤ j → j < pd → 0 ≤ σ 8 (10 * (lvl + 1) + j) ∧ σ 8 (10 * (lvl + 1) + j) < 10) (hT : ∀ i, 0 ≤ σ 2 i ∧ σ 2 i ≤ 9999) : Ct G mX1_heightAfterThrowing 3 0 0 false (SH Ω) (SH Ω) [Rf G 5, I lvl, I pd, I col] σ (fun rv sv => some (I ((thF (σ 2) lvl (fun j => σ 8 (10 * (lvl + 1) + j)) col pd.toNat).1)) = rv ∧ up σ 5 6 (σ 5 6 + (thF (σ 2) lvl (fun j => σ 8 (10 * (lvl + 1) + j)) col pd.toNat).2) = sv) := by
  obtain ⟨P, hP⟩ : ∃ P : Option Value → Sg → Prop, P = (fun rv sv => some (I ((thF (σ 2) lvl (fun j => σ 8 (10 * (lvl + 1) + j)) col pd.toNat).1)) = rv ∧ up σ 5 6 (σ 5 6 + (thF (σ 2) lvl (fun j => σ 8 (10 * (lvl + 1) + j)) col pd.toNat).2) = sv) := ⟨_, rfl⟩
  rw [← hP]
  refine ct_of (lv := [(0, Rf G 5), (1, I lvl), (2, I pd), (3, I col)]) (by decide +kernel) (Nat.le_of_ble_eq_true rfl) rfl ?_
  refine r_iload_n dX1_heightAfterThrowing_0 rfl rfl ?_
  refine r_istore (lv' := [(0, Rf G 5), (1, I lvl), (2, I pd), (3, I col), (4, I pd)]) dX1_heightAfterThrowing_1 (Nat.le_of_ble_eq_true rfl) rfl ?_
  have L3 : ∀ (mm : Nat) (hh acc : Int) (s : Sg), hh.toNat = mm → (hi : 0 ≤ hh ∧ hh ≤ pd) → (ha : thF (σ 2) lvl (fun j => σ 8 (10 * (lvl + 1) + j)) col pd.toNat = ((thF (σ 2) lvl (fun j => σ 8 (10 * (lvl + 1) + j)) col hh.toNat).1, acc + (thF (σ 2) lvl (fun j => σ 8 (10 * (lvl + 1) + j)) col hh.toNat).2)) → (hS : s = up σ 5 6 (σ 5 6 + acc)) → Rn G mX1_heightAfterThrowing (rmD 3 0 0) E0 (Zn G false (SH Ω) P 0 0) false (SH Ω) 0 0 3 [(0, Rf G 5), (1, I lvl), (2, I pd), (3, I col), (4, I hh)] [] s := by
    intro mm
    induction mm using Nat.strongRecOn with
    | _ mm ih3 =>
    intro hh acc s hm3 hi ha hS
    have e2 : s 2 = σ 2 := by rw [hS, up_ne (by decide)]
    have e8 : s 8 = σ 8 := by rw [hS, up_ne (by decide)]
    have f6 : s 5 6 = σ 5 6 + acc := by rw [hS, up_eq]
    refine r_iload dX1_heightAfterThrowing_3 rfl ?_
    refine r_if_le (tgt := 63) dX1_heightAfterThrowing_5 (by decide) (by omega) (fun hb1 => ?_) (fun hb1 => ?_)
    · skip
      refine r_iconst dX1_heightAfterThrowing_63 ?_
      exact r_iret dX1_heightAfterThrowing_64 rfl (by rw [hP]; exact ⟨by rw [ha, show hh = 0 by omega]; rfl, by rw [ha, show hh = 0 by omega, hS]; show up σ 5 6 (σ 5 6 + (acc + 0)) = _; rw [Int.add_zero]⟩)
    · skip
      have hrr := hr hh (by omega) (by omega)
      have hff := hf (hh - 1) (by omega) (by omega)
      have b1 := hT (10 * (hh * p2 lvl - 1) + σ 8 (10 * (lvl + 1) + (hh - 1)))
      have b2 := hT (10 * (hh * p2 lvl - 1) + col)
      refine r_aload_n dX1_heightAfterThrowing_8 rfl rfl ?_
      refine r_iload_n dX1_heightAfterThrowing_9 rfl rfl ?_
      refine r_iload dX1_heightAfterThrowing_10 rfl ?_
      refine r_iconst dX1_heightAfterThrowing_12 ?_
      refine r_isub dX1_heightAfterThrowing_13 ?_
      refine r_callV (tX1_rowAt G s lvl (hh - 1) (by omega)) dX1_heightAfterThrowing_14 svX1_rowAt q299 sh5 (ci := 1) rfl rfl rfl ⟨Nat.le_of_ble_eq_true rfl, Nat.le_of_ble_eq_true rfl⟩ (Nat.le_of_ble_eq_true rfl) ⟨Nat.le_of_ble_eq_true rfl, Nat.le_of_ble_eq_true rfl⟩ ?_
      rintro _ _ ⟨rfl, rfl⟩
      rw [show hh - 1 + 1 = hh by omega]
      refine r_istore (lv' := [(0, Rf G 5), (1, I lvl), (2, I pd), (3, I col), (4, I hh), (5, I (hh * p2 lvl - 1))]) dX1_heightAfterThrowing_17 (Nat.le_of_ble_eq_true rfl) rfl ?_
      refine r_aload_n dX1_heightAfterThrowing_19 rfl rfl ?_
      refine r_iload dX1_heightAfterThrowing_20 rfl ?_
      refine r_aload_n dX1_heightAfterThrowing_22 rfl rfl ?_
      refine r_iload_n dX1_heightAfterThrowing_23 rfl rfl ?_
      refine r_iconst dX1_heightAfterThrowing_24 ?_
      refine r_iadd dX1_heightAfterThrowing_25 ?_
      refine r_iload dX1_heightAfterThrowing_26 rfl ?_
      refine r_iconst dX1_heightAfterThrowing_28 ?_
      refine r_isub dX1_heightAfterThrowing_29 ?_
      refine r_callV (tX1_columnLeft G s (lvl + 1) (hh - 1) (by omega)) dX1_heightAfterThrowing_30 svX1_columnLeft q279 sh5 (ci := 1) rfl rfl rfl ⟨Nat.le_of_ble_eq_true rfl, Nat.le_of_ble_eq_true rfl⟩ (Nat.le_of_ble_eq_true rfl) ⟨Nat.le_of_ble_eq_true rfl, Nat.le_of_ble_eq_true rfl⟩ ?_
      rintro _ _ ⟨rfl, rfl⟩
      rw [show s 8 (10 * (lvl + 1) + (hh - 1)) = σ 8 (10 * (lvl + 1) + (hh - 1)) from congrFun (e8) (10 * (lvl + 1) + (hh - 1))]
      refine r_callV (tX1_look G s (hh * p2 lvl - 1) (σ 8 (10 * (lvl + 1) + (hh - 1))) (by omega)) dX1_heightAfterThrowing_33 svX1_look q283 sh5 (ci := 1) rfl rfl rfl ⟨Nat.le_of_ble_eq_true rfl, Nat.le_of_ble_eq_true rfl⟩ (Nat.le_of_ble_eq_true rfl) ⟨Nat.le_of_ble_eq_true rfl, Nat.le_of_ble_eq_true rfl⟩ ?_
      rintro _ _ ⟨rfl, rfl⟩
      rw [show s 2 (10 * (hh * p2 lvl - 1) + (σ 8 (10 * (lvl + 1) + (hh - 1)))) = σ 2 (10 * (hh * p2 lvl - 1) + (σ 8 (10 * (lvl + 1) + (hh - 1)))) from congrFun (e2) (10 * (hh * p2 lvl - 1) + (σ 8 (10 * (lvl + 1) + (hh - 1))))]
      refine r_istore (lv' := [(0, Rf G 5), (1, I lvl), (2, I pd), (3, I col), (4, I hh), (5, I (hh * p2 lvl - 1)), (6, I (σ 2 (10 * (hh * p2 lvl - 1) + (σ 8 (10 * (lvl + 1) + (hh - 1))))))]) dX1_heightAfterThrowing_36 (Nat.le_of_ble_eq_true rfl) rfl ?_
      refine r_aload_n dX1_heightAfterThrowing_38 rfl rfl ?_
      refine r_iload dX1_heightAfterThrowing_39 rfl ?_
      refine r_iload_n dX1_heightAfterThrowing_41 rfl rfl ?_
      refine r_callV (tX1_look G (up s 5 6 (s 5 6 + 1)) (hh * p2 lvl - 1) col (by omega)) dX1_heightAfterThrowing_42 svX1_look q283 sh5 (ci := 1) rfl rfl rfl ⟨Nat.le_of_ble_eq_true rfl, Nat.le_of_ble_eq_true rfl⟩ (Nat.le_of_ble_eq_true rfl) ⟨Nat.le_of_ble_eq_true rfl, Nat.le_of_ble_eq_true rfl⟩ ?_
      rintro _ _ ⟨rfl, rfl⟩
      rw [show (up s 5 6 (s 5 6 + 1)) 2 (10 * (hh * p2 lvl - 1) + col) = σ 2 (10 * (hh * p2 lvl - 1) + col) from (congrFun (up_ne (by decide)) (10 * (hh * p2 lvl - 1) + col)).trans (congrFun (e2) (10 * (hh * p2 lvl - 1) + col))]
      refine r_istore (lv' := [(0, Rf G 5), (1, I lvl), (2, I pd), (3, I col), (4, I hh), (5, I (hh * p2 lvl - 1)), (6, I (σ 2 (10 * (hh * p2 lvl - 1) + (σ 8 (10 * (lvl + 1) + (hh - 1)))))), (7, I (σ 2 (10 * (hh * p2 lvl - 1) + col)))]) dX1_heightAfterThrowing_45 (Nat.le_of_ble_eq_true rfl) rfl ?_
      refine r_iload dX1_heightAfterThrowing_47 rfl ?_
      refine r_iload dX1_heightAfterThrowing_49 rfl ?_
      refine r_icmp_gt (tgt := 57) dX1_heightAfterThrowing_51 (by decide) (by omega) (fun hb2 => ?_) (fun hb2 => ?_)
      · skip
        refine r_iinc (lv' := [(0, Rf G 5), (1, I lvl), (2, I pd), (3, I col), (4, I (hh + (-1))), (5, I (hh * p2 lvl - 1)), (6, I (σ 2 (10 * (hh * p2 lvl - 1) + (σ 8 (10 * (lvl + 1) + (hh - 1)))))), (7, I (σ 2 (10 * (hh * p2 lvl - 1) + col)))]) dX1_heightAfterThrowing_57 (Nat.le_of_ble_eq_true rfl) rfl rfl ?_
        refine r_goto (tgt := 3) dX1_heightAfterThrowing_60 (by decide) ?_
        refine r_sub [0, 1, 2, 3, 4] rfl ?_
        exact ih3 _ (by omega) (hh + (-1)) (acc + 2) _ rfl (by omega) (by rw [ha, thF_n (by omega) (by omega), show hh + -1 = hh - 1 by omega]; simp only []; rw [Prod.mk.injEq]; exact ⟨rfl, by omega⟩) (by rw [up_eq, f6, hS, up_twice, up_twice]; congr 1; omega)
      · skip
        refine r_iload dX1_heightAfterThrowing_54 rfl ?_
        exact r_iret dX1_heightAfterThrowing_56 rfl (by rw [hP]; exact ⟨by rw [ha, thF_y (by omega) (by omega)], by rw [ha, thF_y (by omega) (by omega), up_eq, f6, hS, up_twice, up_twice]; simp only []; congr 1; omega⟩)
  exact L3 _ _ 0 _ rfl (by omega) (by rw [Int.zero_add]) (by rw [Int.add_zero, up_id rfl])

theorem rows_ok {R lvl h : Int} (hl : 0 ≤ lvl ∧ lvl ≤ 3) (hR : 1 ≤ R ∧ R ≤ 10) (h1 : 1 ≤ h) (h2 : h ≤ R / p2 lvl) : 1 ≤ h * p2 lvl ∧ h * p2 lvl ≤ R := by
  have hy : lvl = 0 ∨ lvl = 1 ∨ lvl = 2 ∨ lvl = 3 := by omega
  rcases hy with rfl | rfl | rfl | rfl
  · rw [p2_0] at *; omega
  · rw [p2_1] at *; omega
  · rw [p2_2] at *; omega
  · rw [p2_3] at *; omega
theorem rows_bd {R lvl : Int} (hl : 0 ≤ lvl ∧ lvl ≤ 4) (hR : 1 ≤ R ∧ R ≤ 10) : 0 ≤ R / p2 lvl ∧ R / p2 lvl ≤ 10 := by
  have hy : lvl = 0 ∨ lvl = 1 ∨ lvl = 2 ∨ lvl = 3 ∨ lvl = 4 := by omega
  rcases hy with rfl | rfl | rfl | rfl | rfl
  · rw [p2_0] at *; omega
  · rw [p2_1] at *; omega
  · rw [p2_2] at *; omega
  · rw [p2_3] at *; omega
  · rw [p2_4] at *; omega
def PileP (σ sv : Sg) (lvl : Int) (r : (Int → Int) × Int × Int) : Prop :=
  (∀ a, a ≠ 5 → a ≠ 8 → a ≠ 9 → sv a = σ a) ∧ sv 5 5 = σ 5 5 ∧ sv 5 6 = σ 5 6 + r.2.2 ∧ sv 9 (lvl + 1) = r.2.1 ∧ (∀ x, x ≠ lvl + 1 → sv 9 x = σ 9 x) ∧ (∀ j, 0 ≤ j → j < r.2.1 → sv 8 (10 * (lvl + 1) + j) = r.1 j) ∧ (∀ x, x < 10 * (lvl + 1) → sv 8 x = σ 8 x)

set_option maxHeartbeats 1000000 in
set_option maxRecDepth 100000 in
theorem tX1_pileColumns (G : GT) (σ : Sg) (lvl : Int) (h : 0 ≤ lvl ∧ lvl ≤ 3) (hR : 1 ≤ σ 1 0 ∧ σ 1 0 ≤ 10) (hn : 0 ≤ σ 9 lvl ∧ σ 9 lvl ≤ 10) (hcol : ∀ j, 0 ≤ j → j < σ 9 lvl → 0 ≤ σ 8 (10 * lvl + j) ∧ σ 8 (10 * lvl + j) < 10) (hT : ∀ i, 0 ≤ σ 2 i ∧ σ 2 i ≤ 9999) : Ct G mX1_pileColumns 4 0 0 false (SH Ω) (SH Ω) [Rf G 5, I lvl] σ (fun rv sv => none = rv ∧ PileP σ sv lvl (plF (σ 2) lvl (σ 1 0 / p2 lvl) (fun j => σ 8 (10 * lvl + j)) (σ 9 lvl).toNat)) := by
  obtain ⟨P, hP⟩ : ∃ P : Option Value → Sg → Prop, P = (fun rv sv => none = rv ∧ PileP σ sv lvl (plF (σ 2) lvl (σ 1 0 / p2 lvl) (fun j => σ 8 (10 * lvl + j)) (σ 9 lvl).toNat)) := ⟨_, rfl⟩
  rw [← hP]
  refine ct_of (lv := [(0, Rf G 5), (1, I lvl)]) (by decide +kernel) (Nat.le_of_ble_eq_true rfl) rfl ?_
  have hN := rows_bd (R := σ 1 0) (lvl := lvl) (by omega) hR
  refine r_aload_n dX1_pileColumns_0 rfl rfl ?_
  refine r_iload_n dX1_pileColumns_1 rfl rfl ?_
  refine r_callV (tX1_rowsAt G σ lvl (by omega) (by omega)) dX1_pileColumns_2 svX1_rowsAt q293 sh5 (ci := 1) rfl rfl rfl ⟨Nat.le_of_ble_eq_true rfl, Nat.le_of_ble_eq_true rfl⟩ (Nat.le_of_ble_eq_true rfl) ⟨Nat.le_of_ble_eq_true rfl, Nat.le_of_ble_eq_true rfl⟩ ?_
  rintro _ _ ⟨rfl, rfl⟩
  refine r_istore_n (lv' := [(0, Rf G 5), (1, I lvl), (2, I (σ 1 0 / p2 lvl))]) dX1_pileColumns_5 rfl (Nat.le_of_ble_eq_true rfl) rfl ?_
  refine r_iload_n dX1_pileColumns_6 rfl rfl ?_
  refine r_if_ne (tgt := 14) dX1_pileColumns_7 (by decide) (by omega) (fun hb1 => ?_) (fun hb1 => ?_)
  · skip
    refine r_aload_n dX1_pileColumns_14 rfl rfl ?_
    refine r_getR (b := 9) dX1_pileColumns_15 sh5 rfl (ci := 1) (j := 4) rfl (Nat.le_of_ble_eq_true rfl) ixX1 q78 rfl ?_
    refine r_iload_n dX1_pileColumns_18 rfl rfl ?_
    refine r_callSN (tX7_numberIn G σ 9 lvl 5 (sh9) (by omega)) dX1_pileColumns_19 svX7_numberIn nw6 rfl ⟨Nat.le_of_ble_eq_true rfl, Nat.le_of_ble_eq_true rfl⟩ (Nat.le_of_ble_eq_true rfl) ⟨Nat.le_of_ble_eq_true rfl, Nat.le_of_ble_eq_true rfl⟩ ?_
    rintro _ _ ⟨rfl, rfl⟩
    refine r_istore_n (lv' := [(0, Rf G 5), (1, I lvl), (2, I (σ 1 0 / p2 lvl)), (3, I (σ 9 lvl))]) dX1_pileColumns_22 rfl (Nat.le_of_ble_eq_true rfl) rfl ?_
    refine r_iconst dX1_pileColumns_23 ?_
    refine r_istore (lv' := [(0, Rf G 5), (1, I lvl), (2, I (σ 1 0 / p2 lvl)), (3, I (σ 9 lvl)), (4, I 0)]) dX1_pileColumns_24 (Nat.le_of_ble_eq_true rfl) rfl ?_
    refine r_iconst dX1_pileColumns_26 ?_
    refine r_istore (lv' := [(0, Rf G 5), (1, I lvl), (2, I (σ 1 0 / p2 lvl)), (3, I (σ 9 lvl)), (4, I 0), (5, I 0)]) dX1_pileColumns_27 (Nat.le_of_ble_eq_true rfl) rfl ?_
    have L29 : ∀ (mm : Nat) (g hgt i : Int) (s : Sg), (g - i).toNat = mm → (hg : (σ 1 0 / p2 lvl = 0 ∧ g = 0) ∨ (¬ σ 1 0 / p2 lvl = 0 ∧ g = σ 9 lvl)) → (hi : 0 ≤ i ∧ i ≤ g) → (hh : hgt = (plF (σ 2) lvl (σ 1 0 / p2 lvl) (fun j => σ 8 (10 * lvl + j)) i.toNat).2.1) → (hfr : ∀ a, a ≠ 5 → a ≠ 8 → a ≠ 9 → s a = σ a) → (f5 : s 5 5 = σ 5 5) → (f6 : s 5 6 = σ 5 6 + (plF (σ 2) lvl (σ 1 0 / p2 lvl) (fun j => σ 8 (10 * lvl + j)) i.toNat).2.2) → (f9 : s 9 = σ 9) → (hcon : ∀ j, 0 ≤ j → j < hgt → s 8 (10 * (lvl + 1) + j) = (plF (σ 2) lvl (σ 1 0 / p2 lvl) (fun j => σ 8 (10 * lvl + j)) i.toNat).1 j) → (hlow : ∀ x, x < 10 * (lvl + 1) → s 8 x = σ 8 x) → Rn G mX1_pileColumns (rmD 4 0 0) E0 (Zn G false (SH Ω) P 0 0) false (SH Ω) 0 0 29 [(0, Rf G 5), (1, I lvl), (2, I (σ 1 0 / p2 lvl)), (3, I g), (4, I hgt), (5, I i)] [] s := by
      intro mm
      induction mm using Nat.strongRecOn with
      | _ mm ih29 =>
      intro g hgt i s hm29 hg hi hh hfr f5 f6 f9 hcon hlow
      have hpb := plF_bd (T := σ 2) (lvl := lvl) (N := σ 1 0 / p2 lvl) (src := fun j => σ 8 (10 * lvl + j)) hN.1 i.toNat
      refine r_iload dX1_pileColumns_29 rfl ?_
      refine r_iload_n dX1_pileColumns_31 rfl rfl ?_
      refine r_icmp_ge (tgt := 88) dX1_pileColumns_32 (by decide) (by omega) (fun hb2 => ?_) (fun hb2 => ?_)
      · skip
        refine r_aload_n dX1_pileColumns_88 rfl rfl ?_
        refine r_getR (b := 9) dX1_pileColumns_89 sh5 rfl (ci := 1) (j := 4) rfl (Nat.le_of_ble_eq_true rfl) ixX1 q78 rfl ?_
        refine r_iload_n dX1_pileColumns_92 rfl rfl ?_
        refine r_iconst dX1_pileColumns_93 ?_
        refine r_iadd dX1_pileColumns_94 ?_
        refine r_iload dX1_pileColumns_95 rfl ?_
        refine r_callSN (tX7_setIn G s 9 (lvl + 1) hgt 5 (sh9) (by omega)) dX1_pileColumns_97 svX7_setIn nw5 rfl ⟨Nat.le_of_ble_eq_true rfl, Nat.le_of_ble_eq_true rfl⟩ (Nat.le_of_ble_eq_true rfl) ⟨Nat.le_of_ble_eq_true rfl, Nat.le_of_ble_eq_true rfl⟩ ?_
        rintro _ _ ⟨rfl, rfl⟩
        exact r_vret dX1_pileColumns_100 rfl (by rw [hP]; exact ⟨rfl, by
  refine ⟨fun a h5 h8 h9 => by rw [up_ne h9]; exact hfr a h5 h8 h9, by rw [up_ne (by decide)]; exact f5, ?_, ?_, fun x hx => by rw [up_nj hx, f9], ?_, fun x hx => by rw [up_ne (by decide)]; exact hlow x hx⟩
  all_goals rcases hg with ⟨g1, g2⟩ | ⟨g1, g2⟩
  · rw [up_ne (by decide), f6, show i = 0 by omega, g1, (Prod.ext_iff.mp (plF_N0 (T := σ 2) (lvl := lvl) (src := fun j => σ 8 (10 * lvl + j)) (σ 9 lvl).toNat)).2]; rfl
  · rw [up_ne (by decide), f6, show i = σ 9 lvl by omega]
  · rw [up_eq, hh, show i = 0 by omega, g1, (Prod.ext_iff.mp (plF_N0 (T := σ 2) (lvl := lvl) (src := fun j => σ 8 (10 * lvl + j)) (σ 9 lvl).toNat)).1]; rfl
  · rw [up_eq, hh, show i = σ 9 lvl by omega]
  · intro j a b; rw [g1, (Prod.ext_iff.mp (plF_N0 (T := σ 2) (lvl := lvl) (src := fun j => σ 8 (10 * lvl + j)) (σ 9 lvl).toNat)).1] at b; simp only [] at b; omega
  · intro j a b; rw [up_ne (by decide), ← show i = σ 9 lvl by omega]; rw [← show i = σ 9 lvl by omega] at b; exact hcon j a (by omega)⟩)
      · skip
        have elow := hlow (10 * lvl + i) (by omega)
        have hcc := hcol i (by omega) (by omega)
        refine r_aload_n dX1_pileColumns_35 rfl rfl ?_
        refine r_iload_n dX1_pileColumns_36 rfl rfl ?_
        refine r_iload dX1_pileColumns_37 rfl ?_
        refine r_callV (tX1_columnLeft G s lvl i (by omega)) dX1_pileColumns_39 svX1_columnLeft q279 sh5 (ci := 1) rfl rfl rfl ⟨Nat.le_of_ble_eq_true rfl, Nat.le_of_ble_eq_true rfl⟩ (Nat.le_of_ble_eq_true rfl) ⟨Nat.le_of_ble_eq_true rfl, Nat.le_of_ble_eq_true rfl⟩ ?_
        rintro _ _ ⟨rfl, rfl⟩
        rw [show s 8 (10 * lvl + i) = σ 8 (10 * lvl + i) from elow]
        refine r_istore (lv' := [(0, Rf G 5), (1, I lvl), (2, I (σ 1 0 / p2 lvl)), (3, I g), (4, I hgt), (5, I i), (6, I (σ 8 (10 * lvl + i)))]) dX1_pileColumns_42 (Nat.le_of_ble_eq_true rfl) rfl ?_
        refine r_aload_n dX1_pileColumns_44 rfl rfl ?_
        refine r_iload_n dX1_pileColumns_45 rfl rfl ?_
        refine r_iload dX1_pileColumns_46 rfl ?_
        refine r_iload dX1_pileColumns_48 rfl ?_
        refine r_callV (tX1_heightAfterThrowing G s lvl hgt (σ 8 (10 * lvl + i)) (by omega) (fun h9 a b => by have := rows_ok (lvl := lvl) (by omega) hR a (show h9 ≤ σ 1 0 / p2 lvl by omega); omega) (by intro j a b; rw [hcon j a b]; obtain ⟨i9, z1, z2, z3⟩ := plF_mem (T := σ 2) (lvl := lvl) (N := σ 1 0 / p2 lvl) (src := fun j => σ 8 (10 * lvl + j)) i.toNat j a (by omega); rw [z3]; exact hcol i9 z1 (by omega)) (by rw [hfr 2 (by decide) (by decide) (by decide)]; exact hT)) dX1_pileColumns_50 svX1_heightAfterThrowing q296 sh5 (ci := 1) rfl rfl rfl ⟨Nat.le_of_ble_eq_true rfl, Nat.le_of_ble_eq_true rfl⟩ (Nat.le_of_ble_eq_true rfl) ⟨Nat.le_of_ble_eq_true rfl, Nat.le_of_ble_eq_true rfl⟩ ?_
        rintro _ _ ⟨rfl, rfl⟩
        have ht : thF (s 2) lvl (fun j => s 8 (10 * (lvl + 1) + j)) (σ 8 (10 * lvl + i)) hgt.toNat = thF (σ 2) lvl (plF (σ 2) lvl (σ 1 0 / p2 lvl) (fun j => σ 8 (10 * lvl + j)) i.toNat).1 ((fun j => σ 8 (10 * lvl + j)) i) (plF (σ 2) lvl (σ 1 0 / p2 lvl) (fun j => σ 8 (10 * lvl + j)) i.toNat).2.1.toNat := by rw [hfr 2 (by decide) (by decide) (by decide), ← hh]; exact thF_c _ (fun j a b => hcon j a (by omega))
        obtain ⟨t, htt⟩ : ∃ t, t = thF (σ 2) lvl (plF (σ 2) lvl (σ 1 0 / p2 lvl) (fun j => σ 8 (10 * lvl + j)) i.toNat).1 ((fun j => σ 8 (10 * lvl + j)) i) (plF (σ 2) lvl (σ 1 0 / p2 lvl) (fun j => σ 8 (10 * lvl + j)) i.toNat).2.1.toNat := ⟨_, rfl⟩
        simp only [hfr 2 (by decide) (by decide) (by decide)] at ht ⊢
        rw [ht, ← htt]
        have htb := thF_bd (T := σ 2) (lvl := lvl) (col := (fun j => σ 8 (10 * lvl + j)) i) (f := (plF (σ 2) lvl (σ 1 0 / p2 lvl) (fun j => σ 8 (10 * lvl + j)) i.toNat).1) (plF (σ 2) lvl (σ 1 0 / p2 lvl) (fun j => σ 8 (10 * lvl + j)) i.toNat).2.1.toNat
        rw [← htt] at htb
        have hps := plF_s hi.1 htt
        refine r_istore (lv' := [(0, Rf G 5), (1, I lvl), (2, I (σ 1 0 / p2 lvl)), (3, I g), (4, I t.1), (5, I i), (6, I (σ 8 (10 * lvl + i)))]) dX1_pileColumns_53 (Nat.le_of_ble_eq_true rfl) rfl ?_
        refine r_iload dX1_pileColumns_55 rfl ?_
        refine r_iload_n dX1_pileColumns_57 rfl rfl ?_
        refine r_icmp_ge (tgt := 82) dX1_pileColumns_58 (by decide) (by omega) (fun hb3 => ?_) (fun hb3 => ?_)
        · skip
          refine r_iinc (lv' := [(0, Rf G 5), (1, I lvl), (2, I (σ 1 0 / p2 lvl)), (3, I g), (4, I t.1), (5, I (i + 1)), (6, I (σ 8 (10 * lvl + i)))]) dX1_pileColumns_82 (Nat.le_of_ble_eq_true rfl) rfl rfl ?_
          refine r_goto (tgt := 29) dX1_pileColumns_85 (by decide) ?_
          refine r_sub [0, 1, 2, 3, 4, 5] rfl ?_
          exact ih29 _ (by omega) g _ (i + 1) _ rfl (hg) (by omega) (by first | (exfalso; omega) | (rw [hps]; first | rw [if_pos (show t.1 < σ 1 0 / p2 lvl by omega)] | rw [if_neg (show ¬ t.1 < σ 1 0 / p2 lvl by omega)])) (fun a h5 h8 h9 => by first | (rw [up_ne h8, up_ne h5]; exact hfr a h5 h8 h9) | (rw [up_ne h5]; exact hfr a h5 h8 h9)) (by first | rw [up_ne (by decide), up_nj (by decide), f5] | rw [up_nj (by decide), f5]) (by rw [hps]; first | (rw [if_pos (show t.1 < σ 1 0 / p2 lvl by omega), up_ne (by decide), up_eq, f6]; simp only []; omega) | (rw [if_neg (show ¬ t.1 < σ 1 0 / p2 lvl by omega), up_eq, f6]; simp only []; omega)) (by first | rw [up_ne (by decide), up_ne (by decide), f9] | rw [up_ne (by decide), f9]) (by intro j a b; rw [hps]; first | (rw [if_pos (show t.1 < σ 1 0 / p2 lvl by omega), up_at, up_ne (by decide)]; simp only []; by_cases q : j = t.1; (rw [if_pos (by omega), if_pos q]); (rw [if_neg (by omega), if_neg q]; exact hcon j a (by omega))) | (rw [if_neg (show ¬ t.1 < σ 1 0 / p2 lvl by omega), up_ne (by decide)]; simp only []; exact hcon j a (by omega))) (fun x hx => by first | (rw [up_nj (by omega), up_ne (by decide)]; exact hlow x hx) | (rw [up_ne (by decide)]; exact hlow x hx))
        · skip
          refine r_aload_n dX1_pileColumns_61 rfl rfl ?_
          refine r_getR (b := 8) dX1_pileColumns_62 sh5 rfl (ci := 1) (j := 3) rfl (Nat.le_of_ble_eq_true rfl) ixX1 q77 rfl ?_
          refine r_iload_n dX1_pileColumns_65 rfl rfl ?_
          refine r_iconst dX1_pileColumns_66 ?_
          refine r_iadd dX1_pileColumns_67 ?_
          refine r_bipush dX1_pileColumns_68 rfl ?_
          refine r_imul dX1_pileColumns_70 ?_
          refine r_iload dX1_pileColumns_71 rfl ?_
          refine r_iadd dX1_pileColumns_73 ?_
          refine r_iload dX1_pileColumns_74 rfl ?_
          refine r_callSN (tX7_setIn G (up s 5 6 (s 5 6 + t.2)) 8 (((lvl + 1) * 10) + t.1) (σ 8 (10 * lvl + i)) 50 (sh8) (by omega)) dX1_pileColumns_76 svX7_setIn nw5 rfl ⟨Nat.le_of_ble_eq_true rfl, Nat.le_of_ble_eq_true rfl⟩ (Nat.le_of_ble_eq_true rfl) ⟨Nat.le_of_ble_eq_true rfl, Nat.le_of_ble_eq_true rfl⟩ ?_
          rintro _ _ ⟨rfl, rfl⟩
          refine r_iinc (lv' := [(0, Rf G 5), (1, I lvl), (2, I (σ 1 0 / p2 lvl)), (3, I g), (4, I (t.1 + 1)), (5, I i), (6, I (σ 8 (10 * lvl + i)))]) dX1_pileColumns_79 (Nat.le_of_ble_eq_true rfl) rfl rfl ?_
          refine r_iinc (lv' := [(0, Rf G 5), (1, I lvl), (2, I (σ 1 0 / p2 lvl)), (3, I g), (4, I (t.1 + 1)), (5, I (i + 1)), (6, I (σ 8 (10 * lvl + i)))]) dX1_pileColumns_82 (Nat.le_of_ble_eq_true rfl) rfl rfl ?_
          refine r_goto (tgt := 29) dX1_pileColumns_85 (by decide) ?_
          refine r_sub [0, 1, 2, 3, 4, 5] rfl ?_
          exact ih29 _ (by omega) g _ (i + 1) _ rfl (hg) (by omega) (by first | (exfalso; omega) | (rw [hps]; first | rw [if_pos (show t.1 < σ 1 0 / p2 lvl by omega)] | rw [if_neg (show ¬ t.1 < σ 1 0 / p2 lvl by omega)])) (fun a h5 h8 h9 => by first | (rw [up_ne h8, up_ne h5]; exact hfr a h5 h8 h9) | (rw [up_ne h5]; exact hfr a h5 h8 h9)) (by first | rw [up_ne (by decide), up_nj (by decide), f5] | rw [up_nj (by decide), f5]) (by rw [hps]; first | (rw [if_pos (show t.1 < σ 1 0 / p2 lvl by omega), up_ne (by decide), up_eq, f6]; simp only []; omega) | (rw [if_neg (show ¬ t.1 < σ 1 0 / p2 lvl by omega), up_eq, f6]; simp only []; omega)) (by first | rw [up_ne (by decide), up_ne (by decide), f9] | rw [up_ne (by decide), f9]) (by intro j a b; rw [hps]; first | (rw [if_pos (show t.1 < σ 1 0 / p2 lvl by omega), up_at, up_ne (by decide)]; simp only []; by_cases q : j = t.1; (rw [if_pos (by omega), if_pos q]); (rw [if_neg (by omega), if_neg q]; exact hcon j a (by omega))) | (rw [if_neg (show ¬ t.1 < σ 1 0 / p2 lvl by omega), up_ne (by decide)]; simp only []; exact hcon j a (by omega))) (fun x hx => by first | (rw [up_nj (by omega), up_ne (by decide)]; exact hlow x hx) | (rw [up_ne (by decide)]; exact hlow x hx))
    exact L29 _ _ 0 0 _ rfl (by omega) (by omega) (rfl) (fun _ _ _ _ => rfl) (rfl) ((Int.add_zero _).symm) (rfl) (fun j a b => by omega) (fun _ _ => rfl)
  · skip
    refine r_iconst dX1_pileColumns_10 ?_
    refine r_goto (tgt := 22) dX1_pileColumns_11 (by decide) ?_
    refine r_istore_n (lv' := [(0, Rf G 5), (1, I lvl), (2, I (σ 1 0 / p2 lvl)), (3, I 0)]) dX1_pileColumns_22 rfl (Nat.le_of_ble_eq_true rfl) rfl ?_
    refine r_iconst dX1_pileColumns_23 ?_
    refine r_istore (lv' := [(0, Rf G 5), (1, I lvl), (2, I (σ 1 0 / p2 lvl)), (3, I 0), (4, I 0)]) dX1_pileColumns_24 (Nat.le_of_ble_eq_true rfl) rfl ?_
    refine r_iconst dX1_pileColumns_26 ?_
    refine r_istore (lv' := [(0, Rf G 5), (1, I lvl), (2, I (σ 1 0 / p2 lvl)), (3, I 0), (4, I 0), (5, I 0)]) dX1_pileColumns_27 (Nat.le_of_ble_eq_true rfl) rfl ?_
    have L29 : ∀ (mm : Nat) (g hgt i : Int) (s : Sg), (g - i).toNat = mm → (hg : (σ 1 0 / p2 lvl = 0 ∧ g = 0) ∨ (¬ σ 1 0 / p2 lvl = 0 ∧ g = σ 9 lvl)) → (hi : 0 ≤ i ∧ i ≤ g) → (hh : hgt = (plF (σ 2) lvl (σ 1 0 / p2 lvl) (fun j => σ 8 (10 * lvl + j)) i.toNat).2.1) → (hfr : ∀ a, a ≠ 5 → a ≠ 8 → a ≠ 9 → s a = σ a) → (f5 : s 5 5 = σ 5 5) → (f6 : s 5 6 = σ 5 6 + (plF (σ 2) lvl (σ 1 0 / p2 lvl) (fun j => σ 8 (10 * lvl + j)) i.toNat).2.2) → (f9 : s 9 = σ 9) → (hcon : ∀ j, 0 ≤ j → j < hgt → s 8 (10 * (lvl + 1) + j) = (plF (σ 2) lvl (σ 1 0 / p2 lvl) (fun j => σ 8 (10 * lvl + j)) i.toNat).1 j) → (hlow : ∀ x, x < 10 * (lvl + 1) → s 8 x = σ 8 x) → Rn G mX1_pileColumns (rmD 4 0 0) E0 (Zn G false (SH Ω) P 0 0) false (SH Ω) 0 0 29 [(0, Rf G 5), (1, I lvl), (2, I (σ 1 0 / p2 lvl)), (3, I g), (4, I hgt), (5, I i)] [] s := by
      intro mm
      induction mm using Nat.strongRecOn with
      | _ mm ih29 =>
      intro g hgt i s hm29 hg hi hh hfr f5 f6 f9 hcon hlow
      have hpb := plF_bd (T := σ 2) (lvl := lvl) (N := σ 1 0 / p2 lvl) (src := fun j => σ 8 (10 * lvl + j)) hN.1 i.toNat
      refine r_iload dX1_pileColumns_29 rfl ?_
      refine r_iload_n dX1_pileColumns_31 rfl rfl ?_
      refine r_icmp_ge (tgt := 88) dX1_pileColumns_32 (by decide) (by omega) (fun hb4 => ?_) (fun hb4 => ?_)
      · skip
        refine r_aload_n dX1_pileColumns_88 rfl rfl ?_
        refine r_getR (b := 9) dX1_pileColumns_89 sh5 rfl (ci := 1) (j := 4) rfl (Nat.le_of_ble_eq_true rfl) ixX1 q78 rfl ?_
        refine r_iload_n dX1_pileColumns_92 rfl rfl ?_
        refine r_iconst dX1_pileColumns_93 ?_
        refine r_iadd dX1_pileColumns_94 ?_
        refine r_iload dX1_pileColumns_95 rfl ?_
        refine r_callSN (tX7_setIn G s 9 (lvl + 1) hgt 5 (sh9) (by omega)) dX1_pileColumns_97 svX7_setIn nw5 rfl ⟨Nat.le_of_ble_eq_true rfl, Nat.le_of_ble_eq_true rfl⟩ (Nat.le_of_ble_eq_true rfl) ⟨Nat.le_of_ble_eq_true rfl, Nat.le_of_ble_eq_true rfl⟩ ?_
        rintro _ _ ⟨rfl, rfl⟩
        exact r_vret dX1_pileColumns_100 rfl (by rw [hP]; exact ⟨rfl, by
  refine ⟨fun a h5 h8 h9 => by rw [up_ne h9]; exact hfr a h5 h8 h9, by rw [up_ne (by decide)]; exact f5, ?_, ?_, fun x hx => by rw [up_nj hx, f9], ?_, fun x hx => by rw [up_ne (by decide)]; exact hlow x hx⟩
  all_goals rcases hg with ⟨g1, g2⟩ | ⟨g1, g2⟩
  · rw [up_ne (by decide), f6, show i = 0 by omega, g1, (Prod.ext_iff.mp (plF_N0 (T := σ 2) (lvl := lvl) (src := fun j => σ 8 (10 * lvl + j)) (σ 9 lvl).toNat)).2]; rfl
  · rw [up_ne (by decide), f6, show i = σ 9 lvl by omega]
  · rw [up_eq, hh, show i = 0 by omega, g1, (Prod.ext_iff.mp (plF_N0 (T := σ 2) (lvl := lvl) (src := fun j => σ 8 (10 * lvl + j)) (σ 9 lvl).toNat)).1]; rfl
  · rw [up_eq, hh, show i = σ 9 lvl by omega]
  · intro j a b; rw [g1, (Prod.ext_iff.mp (plF_N0 (T := σ 2) (lvl := lvl) (src := fun j => σ 8 (10 * lvl + j)) (σ 9 lvl).toNat)).1] at b; simp only [] at b; omega
  · intro j a b; rw [up_ne (by decide), ← show i = σ 9 lvl by omega]; rw [← show i = σ 9 lvl by omega] at b; exact hcon j a (by omega)⟩)
      · skip
        have elow := hlow (10 * lvl + i) (by omega)
        have hcc := hcol i (by omega) (by omega)
        refine r_aload_n dX1_pileColumns_35 rfl rfl ?_
        refine r_iload_n dX1_pileColumns_36 rfl rfl ?_
        refine r_iload dX1_pileColumns_37 rfl ?_
        refine r_callV (tX1_columnLeft G s lvl i (by omega)) dX1_pileColumns_39 svX1_columnLeft q279 sh5 (ci := 1) rfl rfl rfl ⟨Nat.le_of_ble_eq_true rfl, Nat.le_of_ble_eq_true rfl⟩ (Nat.le_of_ble_eq_true rfl) ⟨Nat.le_of_ble_eq_true rfl, Nat.le_of_ble_eq_true rfl⟩ ?_
        rintro _ _ ⟨rfl, rfl⟩
        rw [show s 8 (10 * lvl + i) = σ 8 (10 * lvl + i) from elow]
        refine r_istore (lv' := [(0, Rf G 5), (1, I lvl), (2, I (σ 1 0 / p2 lvl)), (3, I g), (4, I hgt), (5, I i), (6, I (σ 8 (10 * lvl + i)))]) dX1_pileColumns_42 (Nat.le_of_ble_eq_true rfl) rfl ?_
        refine r_aload_n dX1_pileColumns_44 rfl rfl ?_
        refine r_iload_n dX1_pileColumns_45 rfl rfl ?_
        refine r_iload dX1_pileColumns_46 rfl ?_
        refine r_iload dX1_pileColumns_48 rfl ?_
        refine r_callV (tX1_heightAfterThrowing G s lvl hgt (σ 8 (10 * lvl + i)) (by omega) (fun h9 a b => by have := rows_ok (lvl := lvl) (by omega) hR a (show h9 ≤ σ 1 0 / p2 lvl by omega); omega) (by intro j a b; rw [hcon j a b]; obtain ⟨i9, z1, z2, z3⟩ := plF_mem (T := σ 2) (lvl := lvl) (N := σ 1 0 / p2 lvl) (src := fun j => σ 8 (10 * lvl + j)) i.toNat j a (by omega); rw [z3]; exact hcol i9 z1 (by omega)) (by rw [hfr 2 (by decide) (by decide) (by decide)]; exact hT)) dX1_pileColumns_50 svX1_heightAfterThrowing q296 sh5 (ci := 1) rfl rfl rfl ⟨Nat.le_of_ble_eq_true rfl, Nat.le_of_ble_eq_true rfl⟩ (Nat.le_of_ble_eq_true rfl) ⟨Nat.le_of_ble_eq_true rfl, Nat.le_of_ble_eq_true rfl⟩ ?_
        rintro _ _ ⟨rfl, rfl⟩
        have ht : thF (s 2) lvl (fun j => s 8 (10 * (lvl + 1) + j)) (σ 8 (10 * lvl + i)) hgt.toNat = thF (σ 2) lvl (plF (σ 2) lvl (σ 1 0 / p2 lvl) (fun j => σ 8 (10 * lvl + j)) i.toNat).1 ((fun j => σ 8 (10 * lvl + j)) i) (plF (σ 2) lvl (σ 1 0 / p2 lvl) (fun j => σ 8 (10 * lvl + j)) i.toNat).2.1.toNat := by rw [hfr 2 (by decide) (by decide) (by decide), ← hh]; exact thF_c _ (fun j a b => hcon j a (by omega))
        obtain ⟨t, htt⟩ : ∃ t, t = thF (σ 2) lvl (plF (σ 2) lvl (σ 1 0 / p2 lvl) (fun j => σ 8 (10 * lvl + j)) i.toNat).1 ((fun j => σ 8 (10 * lvl + j)) i) (plF (σ 2) lvl (σ 1 0 / p2 lvl) (fun j => σ 8 (10 * lvl + j)) i.toNat).2.1.toNat := ⟨_, rfl⟩
        simp only [hfr 2 (by decide) (by decide) (by decide)] at ht ⊢
        rw [ht, ← htt]
        have htb := thF_bd (T := σ 2) (lvl := lvl) (col := (fun j => σ 8 (10 * lvl + j)) i) (f := (plF (σ 2) lvl (σ 1 0 / p2 lvl) (fun j => σ 8 (10 * lvl + j)) i.toNat).1) (plF (σ 2) lvl (σ 1 0 / p2 lvl) (fun j => σ 8 (10 * lvl + j)) i.toNat).2.1.toNat
        rw [← htt] at htb
        have hps := plF_s hi.1 htt
        refine r_istore (lv' := [(0, Rf G 5), (1, I lvl), (2, I (σ 1 0 / p2 lvl)), (3, I g), (4, I t.1), (5, I i), (6, I (σ 8 (10 * lvl + i)))]) dX1_pileColumns_53 (Nat.le_of_ble_eq_true rfl) rfl ?_
        refine r_iload dX1_pileColumns_55 rfl ?_
        refine r_iload_n dX1_pileColumns_57 rfl rfl ?_
        refine r_icmp_ge (tgt := 82) dX1_pileColumns_58 (by decide) (by omega) (fun hb5 => ?_) (fun hb5 => ?_)
        · skip
          refine r_iinc (lv' := [(0, Rf G 5), (1, I lvl), (2, I (σ 1 0 / p2 lvl)), (3, I g), (4, I t.1), (5, I (i + 1)), (6, I (σ 8 (10 * lvl + i)))]) dX1_pileColumns_82 (Nat.le_of_ble_eq_true rfl) rfl rfl ?_
          refine r_goto (tgt := 29) dX1_pileColumns_85 (by decide) ?_
          refine r_sub [0, 1, 2, 3, 4, 5] rfl ?_
          exact ih29 _ (by omega) g _ (i + 1) _ rfl (hg) (by omega) (by first | (exfalso; omega) | (rw [hps]; first | rw [if_pos (show t.1 < σ 1 0 / p2 lvl by omega)] | rw [if_neg (show ¬ t.1 < σ 1 0 / p2 lvl by omega)])) (fun a h5 h8 h9 => by first | (rw [up_ne h8, up_ne h5]; exact hfr a h5 h8 h9) | (rw [up_ne h5]; exact hfr a h5 h8 h9)) (by first | rw [up_ne (by decide), up_nj (by decide), f5] | rw [up_nj (by decide), f5]) (by rw [hps]; first | (rw [if_pos (show t.1 < σ 1 0 / p2 lvl by omega), up_ne (by decide), up_eq, f6]; simp only []; omega) | (rw [if_neg (show ¬ t.1 < σ 1 0 / p2 lvl by omega), up_eq, f6]; simp only []; omega)) (by first | rw [up_ne (by decide), up_ne (by decide), f9] | rw [up_ne (by decide), f9]) (by intro j a b; rw [hps]; first | (rw [if_pos (show t.1 < σ 1 0 / p2 lvl by omega), up_at, up_ne (by decide)]; simp only []; by_cases q : j = t.1; (rw [if_pos (by omega), if_pos q]); (rw [if_neg (by omega), if_neg q]; exact hcon j a (by omega))) | (rw [if_neg (show ¬ t.1 < σ 1 0 / p2 lvl by omega), up_ne (by decide)]; simp only []; exact hcon j a (by omega))) (fun x hx => by first | (rw [up_nj (by omega), up_ne (by decide)]; exact hlow x hx) | (rw [up_ne (by decide)]; exact hlow x hx))
        · skip
          refine r_aload_n dX1_pileColumns_61 rfl rfl ?_
          refine r_getR (b := 8) dX1_pileColumns_62 sh5 rfl (ci := 1) (j := 3) rfl (Nat.le_of_ble_eq_true rfl) ixX1 q77 rfl ?_
          refine r_iload_n dX1_pileColumns_65 rfl rfl ?_
          refine r_iconst dX1_pileColumns_66 ?_
          refine r_iadd dX1_pileColumns_67 ?_
          refine r_bipush dX1_pileColumns_68 rfl ?_
          refine r_imul dX1_pileColumns_70 ?_
          refine r_iload dX1_pileColumns_71 rfl ?_
          refine r_iadd dX1_pileColumns_73 ?_
          refine r_iload dX1_pileColumns_74 rfl ?_
          refine r_callSN (tX7_setIn G (up s 5 6 (s 5 6 + t.2)) 8 (((lvl + 1) * 10) + t.1) (σ 8 (10 * lvl + i)) 50 (sh8) (by omega)) dX1_pileColumns_76 svX7_setIn nw5 rfl ⟨Nat.le_of_ble_eq_true rfl, Nat.le_of_ble_eq_true rfl⟩ (Nat.le_of_ble_eq_true rfl) ⟨Nat.le_of_ble_eq_true rfl, Nat.le_of_ble_eq_true rfl⟩ ?_
          rintro _ _ ⟨rfl, rfl⟩
          refine r_iinc (lv' := [(0, Rf G 5), (1, I lvl), (2, I (σ 1 0 / p2 lvl)), (3, I g), (4, I (t.1 + 1)), (5, I i), (6, I (σ 8 (10 * lvl + i)))]) dX1_pileColumns_79 (Nat.le_of_ble_eq_true rfl) rfl rfl ?_
          refine r_iinc (lv' := [(0, Rf G 5), (1, I lvl), (2, I (σ 1 0 / p2 lvl)), (3, I g), (4, I (t.1 + 1)), (5, I (i + 1)), (6, I (σ 8 (10 * lvl + i)))]) dX1_pileColumns_82 (Nat.le_of_ble_eq_true rfl) rfl rfl ?_
          refine r_goto (tgt := 29) dX1_pileColumns_85 (by decide) ?_
          refine r_sub [0, 1, 2, 3, 4, 5] rfl ?_
          exact ih29 _ (by omega) g _ (i + 1) _ rfl (hg) (by omega) (by first | (exfalso; omega) | (rw [hps]; first | rw [if_pos (show t.1 < σ 1 0 / p2 lvl by omega)] | rw [if_neg (show ¬ t.1 < σ 1 0 / p2 lvl by omega)])) (fun a h5 h8 h9 => by first | (rw [up_ne h8, up_ne h5]; exact hfr a h5 h8 h9) | (rw [up_ne h5]; exact hfr a h5 h8 h9)) (by first | rw [up_ne (by decide), up_nj (by decide), f5] | rw [up_nj (by decide), f5]) (by rw [hps]; first | (rw [if_pos (show t.1 < σ 1 0 / p2 lvl by omega), up_ne (by decide), up_eq, f6]; simp only []; omega) | (rw [if_neg (show ¬ t.1 < σ 1 0 / p2 lvl by omega), up_eq, f6]; simp only []; omega)) (by first | rw [up_ne (by decide), up_ne (by decide), f9] | rw [up_ne (by decide), f9]) (by intro j a b; rw [hps]; first | (rw [if_pos (show t.1 < σ 1 0 / p2 lvl by omega), up_at, up_ne (by decide)]; simp only []; by_cases q : j = t.1; (rw [if_pos (by omega), if_pos q]); (rw [if_neg (by omega), if_neg q]; exact hcon j a (by omega))) | (rw [if_neg (show ¬ t.1 < σ 1 0 / p2 lvl by omega), up_ne (by decide)]; simp only []; exact hcon j a (by omega))) (fun x hx => by first | (rw [up_nj (by omega), up_ne (by decide)]; exact hlow x hx) | (rw [up_ne (by decide)]; exact hlow x hx))
    exact L29 _ _ 0 0 _ rfl (by omega) (by omega) (rfl) (fun _ _ _ _ => rfl) (rfl) ((Int.add_zero _).symm) (rfl) (fun j a b => by omega) (fun _ _ => rfl)
