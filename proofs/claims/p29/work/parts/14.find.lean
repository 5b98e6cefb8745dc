variable {Ω : List Ob}

/-- the leftmost least, one column more -/
def lstep (T : Int → Int) (row first last p c : Int) : Int := if first ≤ c ∧ c ≤ last ∧ (p = -1 ∨ T (10 * row + c) < T (10 * row + p)) then c else p
def lsF (T : Int → Int) (row first last : Int) (f : Int → Int) : Nat → Int
  | 0 => -1
  | k + 1 => lstep T row first last (lsF T row first last f k) (f (k : Int))
def lcF (first last : Int) (f : Int → Int) : Nat → Int
  | 0 => 0
  | k + 1 => lcF first last f k + (if first ≤ f (k : Int) ∧ f (k : Int) ≤ last then 1 else 0)
theorem lsF_s {T : Int → Int} {row first last : Int} {f : Int → Int} {i : Int} (h : 0 ≤ i) : lsF T row first last f (i + 1).toNat = lstep T row first last (lsF T row first last f i.toNat) (f i) := by
  rw [toNat_s h]; simp only [lsF]; rw [Int.toNat_of_nonneg h]
theorem lcF_y {first last : Int} {f : Int → Int} {i : Int} (h : 0 ≤ i) (v : first ≤ f i ∧ f i ≤ last) : lcF first last f (i + 1).toNat = lcF first last f i.toNat + 1 := by
  rw [toNat_s h]; simp only [lcF]; rw [Int.toNat_of_nonneg h, if_pos v]
theorem lcF_n {first last : Int} {f : Int → Int} {i : Int} (h : 0 ≤ i) (v : ¬ (first ≤ f i ∧ f i ≤ last)) : lcF first last f (i + 1).toNat = lcF first last f i.toNat := by
  rw [toNat_s h]; simp only [lcF]; rw [Int.toNat_of_nonneg h, if_neg v, Int.add_zero]
theorem lsF_c {T : Int → Int} {row first last : Int} {f g : Int → Int} : ∀ n : Nat, (∀ j : Int, 0 ≤ j → j < n → f j = g j) → lsF T row first last f n = lsF T row first last g n ∧ lcF first last f n = lcF first last g n
  | 0, _ => ⟨rfl, rfl⟩
  | k + 1, h => by
    obtain ⟨h1, h2⟩ := lsF_c k (fun j a b => h j a (by omega))
    simp only [lsF, lcF]
    rw [h1, h2, h k (by omega) (by omega)]
    exact ⟨rfl, rfl⟩
theorem lsF_in {T : Int → Int} {row first last : Int} {f : Int → Int} : ∀ n : Nat, lsF T row first last f n = -1 ∨ (first ≤ lsF T row first last f n ∧ lsF T row first last f n ≤ last)
  | 0 => Or.inl rfl
  | k + 1 => by
    simp only [lsF, lstep]
    split
    · next q => exact Or.inr ⟨q.1, q.2.1⟩
    · exact lsF_in k
theorem lsF_mem {T : Int → Int} {row first last : Int} {f : Int → Int} : ∀ n : Nat, lsF T row first last f n = -1 ∨ ∃ j : Int, 0 ≤ j ∧ j < n ∧ lsF T row first last f n = f j
  | 0 => Or.inl rfl
  | k + 1 => by
    simp only [lsF, lstep]
    split
    · exact Or.inr ⟨k, by omega, by omega, rfl⟩
    · rcases lsF_mem k with h | ⟨j, h1, h2, h3⟩
      · exact Or.inl h
      · exact Or.inr ⟨j, h1, by omega, h3⟩
theorem lcF_bd {first last : Int} {f : Int → Int} : ∀ n : Nat, 0 ≤ lcF first last f n ∧ lcF first last f n ≤ n
  | 0 => ⟨Int.le_refl _, Int.le_refl _⟩
  | k + 1 => by
    have := lcF_bd (first := first) (last := last) (f := f) k
    simp only [lcF]
    split <;> omega
/-- over columns side by side -/
def lsI (T : Int → Int) (row p q : Int) : Int := lsF T row p q (fun j => j) (q + 1).toNat
theorem lsI_tail {T : Int → Int} {row p q : Int} (h : 0 ≤ q + 1) : ∀ n : Nat, lsF T row p q (fun j => j) ((q + 1).toNat + n) = lsI T row p q ∧ lcF p q (fun j => j) ((q + 1).toNat + n) = lcF p q (fun j => j) (q + 1).toNat
  | 0 => ⟨rfl, rfl⟩
  | n + 1 => by
    obtain ⟨h1, h2⟩ := lsI_tail h n
    rw [show (q + 1).toNat + (n + 1) = ((q + 1).toNat + n) + 1 by omega]
    simp only [lsF, lcF, lstep]
    rw [h1, h2, if_neg (fun z => by omega), if_neg (fun z => by omega), Int.add_zero]
    exact ⟨rfl, rfl⟩
theorem lcI {p q : Int} (hp : 0 ≤ p) : ∀ n : Nat, p ≤ n → (n : Int) ≤ q + 1 → lcF p q (fun j => j) n = n - p := by
  intro n
  induction n with
  | zero => intro h1 h2; simp only [lcF]; omega
  | succ n ih =>
    intro h1 h2
    simp only [lcF]
    by_cases h : p ≤ (n : Int)
    · rw [ih h (by omega), if_pos ⟨h, by omega⟩]; omega
    · have h0 : ∀ k : Nat, (k : Int) ≤ p → lcF p q (fun j => j) k = 0 := by
        intro k
        induction k with
        | zero => intro _; rfl
        | succ k ik => intro hk; simp only [lcF]; rw [ik (by omega), if_neg (fun z => by omega)]; rfl
      rw [h0 n (by omega), if_neg (fun z => h z.1)]; omega
theorem lsI_pos {T : Int → Int} {row p q : Int} (hp : 0 ≤ p) : ∀ n : Nat, p < n → (n : Int) ≤ q + 1 → p ≤ lsF T row p q (fun j => j) n ∧ lsF T row p q (fun j => j) n ≤ q := by
  intro n hn hq
  rcases lsF_in (T := T) (row := row) (first := p) (last := q) (f := fun j => j) n with h | h
  · exfalso
    have h0 : ∀ k : Nat, p < k → (k : Int) ≤ q + 1 → lsF T row p q (fun j => j) k ≠ -1 := by
      intro k
      induction k with
      | zero => intro a; omega
      | succ k ik =>
        intro a b e
        simp only [lsF, lstep] at e
        by_cases hk : p < (k : Int)
        · have := ik hk (by omega)
          split at e
          · omega
          · exact this e
        · rcases lsF_in (T := T) (row := row) (first := p) (last := q) (f := fun j => j) k with h9 | h9
          · rw [if_pos ⟨by omega, by omega, Or.inl h9⟩] at e; omega
          · split at e <;> omega
    exact h0 n hn hq h
  · exact h
theorem lsI_bd {T : Int → Int} {row p q : Int} (hp : 0 ≤ p) (h : p ≤ q) : p ≤ lsI T row p q ∧ lsI T row p q ≤ q := lsI_pos hp _ (by omega) (by omega)
/-- the list of all columns -/
theorem lsI_of {T : Int → Int} {row p q C : Int} {f : Int → Int} (hf : ∀ j : Int, 0 ≤ j → j < C → f j = j) (hp : 0 ≤ p) (hpq : p ≤ q) (hq : q < C) : lsF T row p q f C.toNat = lsI T row p q ∧ lcF p q f C.toNat = q - p + 1 := by
  obtain ⟨h1, h2⟩ := lsF_c (T := T) (row := row) (first := p) (last := q) (f := f) (g := fun j => j) C.toNat (fun j a b => hf j a (by omega))
  obtain ⟨h3, h4⟩ := lsI_tail (T := T) (row := row) (p := p) (q := q) (by omega) (C.toNat - (q + 1).toNat)
  rw [show (q + 1).toNat + (C.toNat - (q + 1).toNat) = C.toNat by omega] at h3 h4
  have h5 := lcI (p := p) (q := q) hp (q + 1).toNat (by omega) (by omega)
  rw [h1, h2, h3, h4, h5]
  exact ⟨rfl, by omega⟩

set_option maxHeartbeats 1000000 in
set_option maxRecDepth 100000 in
theorem tX1_columnLeft (G : GT) (σ : Sg) (li i : Int) (h : 0 ≤ li ∧ li ≤ 4 ∧ 0 ≤ i ∧ i < 10) : Ct G mX1_columnLeft 2 0 0 false (SH Ω) (SH Ω) [Rf G 5, I li, I i] σ (fun rv sv => some (I (σ 8 (10 * li + i))) = rv ∧ σ = sv) := by
  obtain ⟨P, hP⟩ : ∃ P : Option Value → Sg → Prop, P = (fun rv sv => some (I (σ 8 (10 * li + i))) = rv ∧ σ = sv) := ⟨_, rfl⟩
  rw [← hP]
  refine ct_of (lv := [(0, Rf G 5), (1, I li), (2, I i)]) (by decide +kernel) (Nat.le_of_ble_eq_true rfl) rfl ?_
  refine r_aload_n dX1_columnLeft_0 rfl rfl ?_
  refine r_getR (b := 8) dX1_columnLeft_1 sh5 rfl (ci := 1) (j := 3) rfl (Nat.le_of_ble_eq_true rfl) ixX1 q77 rfl ?_
  refine r_iload_n dX1_columnLeft_4 rfl rfl ?_
  refine r_bipush dX1_columnLeft_5 rfl ?_
  refine r_imul dX1_columnLeft_7 ?_
  refine r_iload_n dX1_columnLeft_8 rfl rfl ?_
  refine r_iadd dX1_columnLeft_9 ?_
  refine r_callSN (tX7_numberIn G σ 8 ((li * 10) + i) 50 (sh8) (by omega)) dX1_columnLeft_10 svX7_numberIn nw6 rfl ⟨Nat.le_of_ble_eq_true rfl, Nat.le_of_ble_eq_true rfl⟩ (Nat.le_of_ble_eq_true rfl) ⟨Nat.le_of_ble_eq_true rfl, Nat.le_of_ble_eq_true rfl⟩ ?_
  rintro _ _ ⟨rfl, rfl⟩
  exact r_iret dX1_columnLeft_13 rfl (by rw [hP]; exact ⟨by rw [show li * 10 + i = 10 * li + i by omega], rfl⟩)
set_option maxHeartbeats 1000000 in
set_option maxRecDepth 100000 in
theorem tX1_look (G : GT) (σ : Sg) (r c : Int) (h : 0 ≤ r ∧ r < 10 ∧ 0 ≤ c ∧ c < 10) : Ct G mX1_look 2 0 0 false (SH Ω) (SH Ω) [Rf G 5, I r, I c] σ (fun rv sv => some (I (σ 2 (10 * r + c))) = rv ∧ up σ 5 6 (σ 5 6 + 1) = sv) := by
  obtain ⟨P, hP⟩ : ∃ P : Option Value → Sg → Prop, P = (fun rv sv => some (I (σ 2 (10 * r + c))) = rv ∧ up σ 5 6 (σ 5 6 + 1) = sv) := ⟨_, rfl⟩
  rw [← hP]
  refine ct_of (lv := [(0, Rf G 5), (1, I r), (2, I c)]) (by decide +kernel) (Nat.le_of_ble_eq_true rfl) rfl ?_
  refine r_aload_n dX1_look_0 rfl rfl ?_
  refine r_dup dX1_look_1 rfl ?_
  refine r_getI (z := 6) dX1_look_2 sh5 rfl (ci := 1) (j := 6) rfl (Nat.le_of_ble_eq_true rfl) rfl ixX1 q80 rfl (hv := rfl) ?_
  refine r_iconst dX1_look_5 ?_
  refine r_iadd dX1_look_6 ?_
  refine r_putI (z := 6) tyX1 dX1_look_7 sh5 rfl (ci := 1) (j := 6) rfl (Nat.le_of_ble_eq_true rfl) rfl tyX1_ok nmX1 ixX1 q80 rfl rfl rfl ?_
  refine r_aload_n dX1_look_10 rfl rfl ?_
  refine r_getR (b := 1) dX1_look_11 sh5 rfl (ci := 1) (j := 0) rfl (Nat.le_of_ble_eq_true rfl) ixX1 q74 rfl ?_
  refine r_iload_n dX1_look_14 rfl rfl ?_
  refine r_iload_n dX1_look_15 rfl rfl ?_
  refine r_callV (tX5_numberAt G (up σ 5 6 ((σ 5 6) + 1)) r c (by omega)) dX1_look_16 svX5_numberAt q286 sh1 (ci := 5) rfl rfl rfl ⟨Nat.le_of_ble_eq_true rfl, Nat.le_of_ble_eq_true rfl⟩ (Nat.le_of_ble_eq_true rfl) ⟨Nat.le_of_ble_eq_true rfl, Nat.le_of_ble_eq_true rfl⟩ ?_
  rintro _ _ ⟨rfl, rfl⟩
  rw [show (up σ 5 6 ((σ 5 6) + 1)) 2 (10 * r + c) = σ 2 (10 * r + c) from congrFun (up_ne (by decide)) (10 * r + c)]
  exact r_iret dX1_look_19 rfl (by rw [hP]; exact ⟨rfl, rfl⟩)
set_option maxHeartbeats 1000000 in
set_option maxRecDepth 100000 in
theorem tX1_setPlace (G : GT) (σ : Sg) (r v : Int) (h : 0 ≤ r ∧ r < 10 ∧ 0 ≤ σ 5 5 ∧ σ 5 5 ≤ 2) : Ct G mX1_setPlace 2 0 0 false (SH Ω) (SH Ω) [Rf G 5, I r, I v] σ (fun rv sv => none = rv ∧ up σ 6 (10 * σ 5 5 + r) v = sv) := by
  obtain ⟨P, hP⟩ : ∃ P : Option Value → Sg → Prop, P = (fun rv sv => none = rv ∧ up σ 6 (10 * σ 5 5 + r) v = sv) := ⟨_, rfl⟩
  rw [← hP]
  refine ct_of (lv := [(0, Rf G 5), (1, I r), (2, I v)]) (by decide +kernel) (Nat.le_of_ble_eq_true rfl) rfl ?_
  refine r_aload_n dX1_setPlace_0 rfl rfl ?_
  refine r_getR (b := 6) dX1_setPlace_1 sh5 rfl (ci := 1) (j := 1) rfl (Nat.le_of_ble_eq_true rfl) ixX1 q75 rfl ?_
  refine r_aload_n dX1_setPlace_4 rfl rfl ?_
  refine r_getI (z := 5) dX1_setPlace_5 sh5 rfl (ci := 1) (j := 5) rfl (Nat.le_of_ble_eq_true rfl) rfl ixX1 q79 rfl (hv := rfl) ?_
  refine r_bipush dX1_setPlace_8 rfl ?_
  refine r_imul dX1_setPlace_10 ?_
  refine r_iload_n dX1_setPlace_11 rfl rfl ?_
  refine r_iadd dX1_setPlace_12 ?_
  refine r_iload_n dX1_setPlace_13 rfl rfl ?_
  refine r_callSN (tX7_setIn G σ 6 (((σ 5 5) * 10) + r) v 30 (sh6) (by omega)) dX1_setPlace_14 svX7_setIn nw5 rfl ⟨Nat.le_of_ble_eq_true rfl, Nat.le_of_ble_eq_true rfl⟩ (Nat.le_of_ble_eq_true rfl) ⟨Nat.le_of_ble_eq_true rfl, Nat.le_of_ble_eq_true rfl⟩ ?_
  rintro _ _ ⟨rfl, rfl⟩
  exact r_vret dX1_setPlace_17 rfl (by rw [hP]; exact ⟨rfl, by rw [show σ 5 5 * 10 + r = 10 * σ 5 5 + r by omega]⟩)
set_option maxHeartbeats 1000000 in
set_option maxRecDepth 100000 in
theorem tX1_placeBy (G : GT) (σ : Sg) (w r : Int) (h : 0 ≤ r ∧ r < 10 ∧ 0 ≤ w ∧ w ≤ 2) : Ct G mX1_placeBy 2 0 0 false (SH Ω) (SH Ω) [Rf G 5, I w, I r] σ (fun rv sv => some (I (σ 6 (10 * w + r))) = rv ∧ σ = sv) := by
  obtain ⟨P, hP⟩ : ∃ P : Option Value → Sg → Prop, P = (fun rv sv => some (I (σ 6 (10 * w + r))) = rv ∧ σ = sv) := ⟨_, rfl⟩
  rw [← hP]
  refine ct_of (lv := [(0, Rf G 5), (1, I w), (2, I r)]) (by decide +kernel) (Nat.le_of_ble_eq_true rfl) rfl ?_
  refine r_aload_n dX1_placeBy_0 rfl rfl ?_
  refine r_getR (b := 6) dX1_placeBy_1 sh5 rfl (ci := 1) (j := 1) rfl (Nat.le_of_ble_eq_true rfl) ixX1 q75 rfl ?_
  refine r_iload_n dX1_placeBy_4 rfl rfl ?_
  refine r_bipush dX1_placeBy_5 rfl ?_
  refine r_imul dX1_placeBy_7 ?_
  refine r_iload_n dX1_placeBy_8 rfl rfl ?_
  refine r_iadd dX1_placeBy_9 ?_
  refine r_callSN (tX7_numberIn G σ 6 ((w * 10) + r) 30 (sh6) (by omega)) dX1_placeBy_10 svX7_numberIn nw6 rfl ⟨Nat.le_of_ble_eq_true rfl, Nat.le_of_ble_eq_true rfl⟩ (Nat.le_of_ble_eq_true rfl) ⟨Nat.le_of_ble_eq_true rfl, Nat.le_of_ble_eq_true rfl⟩ ?_
  rintro _ _ ⟨rfl, rfl⟩
  exact r_iret dX1_placeBy_13 rfl (by rw [hP]; exact ⟨by rw [show w * 10 + r = 10 * w + r by omega], rfl⟩)
set_option maxHeartbeats 1000000 in
set_option maxRecDepth 100000 in
theorem tX1_looksBy (G : GT) (σ : Sg) (w : Int) (h : 0 ≤ w ∧ w ≤ 2) : Ct G mX1_looksBy 2 0 0 false (SH Ω) (SH Ω) [Rf G 5, I w] σ (fun rv sv => some (I (σ 7 w)) = rv ∧ σ = sv) := by
  obtain ⟨P, hP⟩ : ∃ P : Option Value → Sg → Prop, P = (fun rv sv => some (I (σ 7 w)) = rv ∧ σ = sv) := ⟨_, rfl⟩
  rw [← hP]
  refine ct_of (lv := [(0, Rf G 5), (1, I w)]) (by decide +kernel) (Nat.le_of_ble_eq_true rfl) rfl ?_
  refine r_aload_n dX1_looksBy_0 rfl rfl ?_
  refine r_getR (b := 7) dX1_looksBy_1 sh5 rfl (ci := 1) (j := 2) rfl (Nat.le_of_ble_eq_true rfl) ixX1 q76 rfl ?_
  refine r_iload_n dX1_looksBy_4 rfl rfl ?_
  refine r_callSN (tX7_numberIn G σ 7 w 3 (sh7) (by omega)) dX1_looksBy_5 svX7_numberIn nw6 rfl ⟨Nat.le_of_ble_eq_true rfl, Nat.le_of_ble_eq_true rfl⟩ (Nat.le_of_ble_eq_true rfl) ⟨Nat.le_of_ble_eq_true rfl, Nat.le_of_ble_eq_true rfl⟩ ?_
  rintro _ _ ⟨rfl, rfl⟩
  exact r_iret dX1_looksBy_8 rfl (by rw [hP]; exact ⟨rfl, rfl⟩)
set_option maxHeartbeats 1000000 in
set_option maxRecDepth 100000 in
theorem tX1_rowsAt (G : GT) (σ : Sg) (l : Int) (h : 0 ≤ l ∧ l ≤ 4) (hR : 1 ≤ σ 1 0 ∧ σ 1 0 ≤ 10) : Ct G mX1_rowsAt 1 0 0 false (SH Ω) (SH Ω) [Rf G 5, I l] σ (fun rv sv => some (I (σ 1 0 / p2 l)) = rv ∧ σ = sv) := by
  obtain ⟨P, hP⟩ : ∃ P : Option Value → Sg → Prop, P = (fun rv sv => some (I (σ 1 0 / p2 l)) = rv ∧ σ = sv) := ⟨_, rfl⟩
  rw [← hP]
  refine ct_of (lv := [(0, Rf G 5), (1, I l)]) (by decide +kernel) (Nat.le_of_ble_eq_true rfl) rfl ?_
  refine r_aload_n dX1_rowsAt_0 rfl rfl ?_
  refine r_getR (b := 1) dX1_rowsAt_1 sh5 rfl (ci := 1) (j := 0) rfl (Nat.le_of_ble_eq_true rfl) ixX1 q74 rfl ?_
  refine r_getI (z := 0) dX1_rowsAt_4 sh1 rfl (ci := 5) (j := 0) rfl (Nat.le_of_ble_eq_true rfl) rfl ixX5 q34 rfl (hv := rfl) ?_
  refine r_iload_n dX1_rowsAt_7 rfl rfl ?_
  refine r_ishr dX1_rowsAt_8 (by omega) ?_
  exact r_iret dX1_rowsAt_9 rfl (by rw [hP]; exact ⟨rfl, rfl⟩)
set_option maxHeartbeats 1000000 in
set_option maxRecDepth 100000 in
theorem tX1_rowAt (G : GT) (σ : Sg) (l k : Int) (h : 0 ≤ l ∧ l ≤ 4 ∧ 0 ≤ k ∧ k ≤ 100) : Ct G mX1_rowAt 1 0 0 false (SH Ω) (SH Ω) [Rf G 5, I l, I k] σ (fun rv sv => some (I ((k + 1) * p2 l - 1)) = rv ∧ σ = sv) := by
  obtain ⟨P, hP⟩ : ∃ P : Option Value → Sg → Prop, P = (fun rv sv => some (I ((k + 1) * p2 l - 1)) = rv ∧ σ = sv) := ⟨_, rfl⟩
  rw [← hP]
  refine ct_of (lv := [(0, Rf G 5), (1, I l), (2, I k)]) (by decide +kernel) (Nat.le_of_ble_eq_true rfl) rfl ?_
  refine r_iload_n dX1_rowAt_0 rfl rfl ?_
  refine r_iconst dX1_rowAt_1 ?_
  refine r_iadd dX1_rowAt_2 ?_
  refine r_iload_n dX1_rowAt_3 rfl rfl ?_
  refine r_ishl dX1_rowAt_4 (by omega) ?_
  refine r_iconst dX1_rowAt_5 ?_
  refine r_isub dX1_rowAt_6 ?_
  exact r_iret dX1_rowAt_7 rfl (by rw [hP]; exact ⟨rfl, rfl⟩)

theorem lpick {T : Int → Int} {row first last p c ls x : Int} (hl : p ≠ -1 → ls = T (10 * row + p)) (h : (x = c ∧ first ≤ c ∧ c ≤ last ∧ (p = -1 ∨ T (10 * row + c) < ls)) ∨ (x = p ∧ ¬ (first ≤ c ∧ c ≤ last ∧ (p = -1 ∨ T (10 * row + c) < ls)))) : lstep T row first last p c = x := by
  unfold lstep
  rcases h with ⟨h1, h2, h3, h4⟩ | ⟨h1, h2⟩
  · rw [if_pos ⟨h2, h3, by by_cases q : p = -1
                           · exact Or.inl q
                           · exact Or.inr (by have := hl q; omega)⟩, h1]
  · rw [if_neg, h1]
    rintro ⟨q1, q2, q3⟩
    apply h2
    refine ⟨q1, q2, ?_⟩
    by_cases z : p = -1
    · exact Or.inl z
    · exact Or.inr (by have := hl z; omega)

set_option maxHeartbeats 1000000 in
set_option maxRecDepth 100000 in
theorem tX1_leftmostLeast (G : GT) (σ : Sg) (row li first last : Int) (h : 0 ≤ row ∧ row < 10 ∧ 0 ≤ li ∧ li ≤ 4 ∧ -1 ≤ first ∧ first ≤ 100 ∧ -1 ≤ last ∧ last ≤ 100) (hn : 0 ≤ σ 9 li ∧ σ 9 li ≤ 10) (hf : ∀ j, 0 ≤ j → j < σ 9 li → 0 ≤ σ 8 (10 * li + j) ∧ σ 8 (10 * li + j) < 10) (hT : ∀ i, 0 ≤ σ 2 i ∧ σ 2 i ≤ 9999) : Ct G mX1_leftmostLeast 3 0 0 false (SH Ω) (SH Ω) [Rf G 5, I row, I li, I first, I last] σ (fun rv sv => some (I (lsF (σ 2) row first last (fun j => σ 8 (10 * li + j)) (σ 9 li).toNat)) = rv ∧ up σ 5 6 (σ 5 6 + lcF first last (fun j => σ 8 (10 * li + j)) (σ 9 li).toNat) = sv) := by
  obtain ⟨P, hP⟩ : ∃ P : Option Value → Sg → Prop, P = (fun rv sv => some (I (lsF (σ 2) row first last (fun j => σ 8 (10 * li + j)) (σ 9 li).toNat)) = rv ∧ up σ 5 6 (σ 5 6 + lcF first last (fun j => σ 8 (10 * li + j)) (σ 9 li).toNat) = sv) := ⟨_, rfl⟩
  rw [← hP]
  refine ct_of (lv := [(0, Rf G 5), (1, I row), (2, I li), (3, I first), (4, I last)]) (by decide +kernel) (Nat.le_of_ble_eq_true rfl) rfl ?_
  refine r_iconst dX1_leftmostLeast_0 ?_
  refine r_istore (lv' := [(0, Rf G 5), (1, I row), (2, I li), (3, I first), (4, I last), (5, I (-1))]) dX1_leftmostLeast_1 (Nat.le_of_ble_eq_true rfl) rfl ?_
  refine r_iconst dX1_leftmostLeast_3 ?_
  refine r_istore (lv' := [(0, Rf G 5), (1, I row), (2, I li), (3, I first), (4, I last), (5, I (-1)), (6, I 0)]) dX1_leftmostLeast_4 (Nat.le_of_ble_eq_true rfl) rfl ?_
  refine r_aload_n dX1_leftmostLeast_6 rfl rfl ?_
  refine r_getR (b := 9) dX1_leftmostLeast_7 sh5 rfl (ci := 1) (j := 4) rfl (Nat.le_of_ble_eq_true rfl) ixX1 q78 rfl ?_
  refine r_iload_n dX1_leftmostLeast_10 rfl rfl ?_
  refine r_callSN (tX7_numberIn G σ 9 li 5 (sh9) (by omega)) dX1_leftmostLeast_11 svX7_numberIn nw6 rfl ⟨Nat.le_of_ble_eq_true rfl, Nat.le_of_ble_eq_true rfl⟩ (Nat.le_of_ble_eq_true rfl) ⟨Nat.le_of_ble_eq_true rfl, Nat.le_of_ble_eq_true rfl⟩ ?_
  rintro _ _ ⟨rfl, rfl⟩
  refine r_istore (lv' := [(0, Rf G 5), (1, I row), (2, I li), (3, I first), (4, I last), (5, I (-1)), (6, I 0), (7, I (σ 9 li))]) dX1_leftmostLeast_14 (Nat.le_of_ble_eq_true rfl) rfl ?_
  refine r_iconst dX1_leftmostLeast_16 ?_
  refine r_istore (lv' := [(0, Rf G 5), (1, I row), (2, I li), (3, I first), (4, I last), (5, I (-1)), (6, I 0), (7, I (σ 9 li)), (8, I 0)]) dX1_leftmostLeast_17 (Nat.le_of_ble_eq_true rfl) rfl ?_
  have L19 : ∀ (mm : Nat) (p ls i : Int) (s : Sg), (σ 9 li - i).toNat = mm → (hi : 0 ≤ i ∧ i ≤ σ 9 li) → (hp : p = lsF (σ 2) row first last (fun j => σ 8 (10 * li + j)) i.toNat) → (hl : p ≠ -1 → ls = σ 2 (10 * row + p)) → (hb : 0 ≤ ls ∧ ls ≤ 9999 ∧ -1 ≤ p ∧ p < 10) → (hS : s = up σ 5 6 (σ 5 6 + lcF first last (fun j => σ 8 (10 * li + j)) i.toNat)) → Rn G mX1_leftmostLeast (rmD 3 0 0) E0 (Zn G false (SH Ω) P 0 0) false (SH Ω) 0 0 19 [(0, Rf G 5), (1, I row), (2, I li), (3, I first), (4, I last), (5, I p), (6, I ls), (7, I (σ 9 li)), (8, I i)] [] s := by
    intro mm
    induction mm using Nat.strongRecOn with
    | _ mm ih19 =>
    intro p ls i s hm19 hi hp hl hb hS
    have e1 : s 1 = σ 1 := by rw [hS, up_ne (by decide)]
    have e2 : s 2 = σ 2 := by rw [hS, up_ne (by decide)]
    have e8 : s 8 = σ 8 := by rw [hS, up_ne (by decide)]
    have e9 : s 9 = σ 9 := by rw [hS, up_ne (by decide)]
    refine r_iload dX1_leftmostLeast_19 rfl ?_
    refine r_iload dX1_leftmostLeast_21 rfl ?_
    refine r_icmp_ge (tgt := 82) dX1_leftmostLeast_23 (by decide) (by omega) (fun hb1 => ?_) (fun hb1 => ?_)
    · skip
      refine r_iload dX1_leftmostLeast_82 rfl ?_
      exact r_iret dX1_leftmostLeast_84 rfl (by rw [hP]; exact ⟨by rw [hp, show i = σ 9 li by omega], by rw [hS, show i = σ 9 li by omega]⟩)
    · skip
      have hc := hf i (by omega) (by omega)
      have hcT := hT (10 * row + σ 8 (10 * li + i))
      refine r_aload_n dX1_leftmostLeast_26 rfl rfl ?_
      refine r_iload_n dX1_leftmostLeast_27 rfl rfl ?_
      refine r_iload dX1_leftmostLeast_28 rfl ?_
      refine r_callV (tX1_columnLeft G s li i (by omega)) dX1_leftmostLeast_30 svX1_columnLeft q279 sh5 (ci := 1) rfl rfl rfl ⟨Nat.le_of_ble_eq_true rfl, Nat.le_of_ble_eq_true rfl⟩ (Nat.le_of_ble_eq_true rfl) ⟨Nat.le_of_ble_eq_true rfl, Nat.le_of_ble_eq_true rfl⟩ ?_
      rintro _ _ ⟨rfl, rfl⟩
      rw [show s 8 (10 * li + i) = σ 8 (10 * li + i) from congrFun (e8) (10 * li + i)]
      refine r_istore (lv' := [(0, Rf G 5), (1, I row), (2, I li), (3, I first), (4, I last), (5, I p), (6, I ls), (7, I (σ 9 li)), (8, I i), (9, I (σ 8 (10 * li + i)))]) dX1_leftmostLeast_33 (Nat.le_of_ble_eq_true rfl) rfl ?_
      refine r_iload dX1_leftmostLeast_35 rfl ?_
      refine r_iload_n dX1_leftmostLeast_37 rfl rfl ?_
      refine r_iload dX1_leftmostLeast_38 rfl ?_
      refine r_callSN (tX7_isFromTo G s (σ 8 (10 * li + i)) first last (by omega)) dX1_leftmostLeast_40 svX7_isFromTo nw7 rfl ⟨Nat.le_of_ble_eq_true rfl, Nat.le_of_ble_eq_true rfl⟩ (Nat.le_of_ble_eq_true rfl) ⟨Nat.le_of_ble_eq_true rfl, Nat.le_of_ble_eq_true rfl⟩ ?_
      rintro _ _ ⟨⟨hq2, rfl⟩ | ⟨hq2, rfl⟩, rfl⟩
      · skip
        refine r_if_eq (tgt := 76) dX1_leftmostLeast_43 (by decide) (by omega) (fun hb3 => ?_) (fun hb3 => ?_)
        · skip
          exact absurd hb3 (by omega)
        · skip
          refine r_aload_n dX1_leftmostLeast_46 rfl rfl ?_
          refine r_iload_n dX1_leftmostLeast_47 rfl rfl ?_
          refine r_iload dX1_leftmostLeast_48 rfl ?_
          refine r_callV (tX1_look G s row (σ 8 (10 * li + i)) (by omega)) dX1_leftmostLeast_50 svX1_look q283 sh5 (ci := 1) rfl rfl rfl ⟨Nat.le_of_ble_eq_true rfl, Nat.le_of_ble_eq_true rfl⟩ (Nat.le_of_ble_eq_true rfl) ⟨Nat.le_of_ble_eq_true rfl, Nat.le_of_ble_eq_true rfl⟩ ?_
          rintro _ _ ⟨rfl, rfl⟩
          rw [show s 2 (10 * row + (σ 8 (10 * li + i))) = σ 2 (10 * row + (σ 8 (10 * li + i))) from congrFun (e2) (10 * row + (σ 8 (10 * li + i)))]
          refine r_istore (lv' := [(0, Rf G 5), (1, I row), (2, I li), (3, I first), (4, I last), (5, I p), (6, I ls), (7, I (σ 9 li)), (8, I i), (9, I (σ 8 (10 * li + i))), (10, I (σ 2 (10 * row + (σ 8 (10 * li + i)))))]) dX1_leftmostLeast_53 (Nat.le_of_ble_eq_true rfl) rfl ?_
          refine r_iload dX1_leftmostLeast_55 rfl ?_
          refine r_iconst dX1_leftmostLeast_57 ?_
          refine r_icmp_eq (tgt := 68) dX1_leftmostLeast_58 (by decide) (by omega) (fun hb4 => ?_) (fun hb4 => ?_)
          · skip
            refine r_iload dX1_leftmostLeast_68 rfl ?_
            refine r_istore (lv' := [(0, Rf G 5), (1, I row), (2, I li), (3, I first), (4, I last), (5, I (σ 8 (10 * li + i))), (6, I ls), (7, I (σ 9 li)), (8, I i), (9, I (σ 8 (10 * li + i))), (10, I (σ 2 (10 * row + (σ 8 (10 * li + i)))))]) dX1_leftmostLeast_70 (Nat.le_of_ble_eq_true rfl) rfl ?_
            refine r_iload dX1_leftmostLeast_72 rfl ?_
            refine r_istore (lv' := [(0, Rf G 5), (1, I row), (2, I li), (3, I first), (4, I last), (5, I (σ 8 (10 * li + i))), (6, I (σ 2 (10 * row + (σ 8 (10 * li + i))))), (7, I (σ 9 li)), (8, I i), (9, I (σ 8 (10 * li + i))), (10, I (σ 2 (10 * row + (σ 8 (10 * li + i)))))]) dX1_leftmostLeast_74 (Nat.le_of_ble_eq_true rfl) rfl ?_
            refine r_iinc (lv' := [(0, Rf G 5), (1, I row), (2, I li), (3, I first), (4, I last), (5, I (σ 8 (10 * li + i))), (6, I (σ 2 (10 * row + (σ 8 (10 * li + i))))), (7, I (σ 9 li)), (8, I (i + 1)), (9, I (σ 8 (10 * li + i))), (10, I (σ 2 (10 * row + (σ 8 (10 * li + i)))))]) dX1_leftmostLeast_76 (Nat.le_of_ble_eq_true rfl) rfl rfl ?_
            refine r_goto (tgt := 19) dX1_leftmostLeast_79 (by decide) ?_
            refine r_sub [0, 1, 2, 3, 4, 5, 6, 7, 8] rfl ?_
            exact ih19 _ (by omega) _ _ (i + 1) _ rfl (by omega) (by rw [lsF_s hi.1, ← hp]; refine (lpick hl ?_).symm; first | exact Or.inl ⟨rfl, by omega, by omega, by omega⟩ | exact Or.inr ⟨rfl, by omega⟩) (by first | exact hl | exact fun _ => rfl) (by omega) (by rw [hS]; first | rw [lcF_n hi.1 (by omega)] | (rw [lcF_y hi.1 (by omega), up_twice, up_eq, Int.add_assoc]))
          · skip
            refine r_iload dX1_leftmostLeast_61 rfl ?_
            refine r_iload dX1_leftmostLeast_63 rfl ?_
            refine r_icmp_ge (tgt := 76) dX1_leftmostLeast_65 (by decide) (by omega) (fun hb5 => ?_) (fun hb5 => ?_)
            · skip
              refine r_iinc (lv' := [(0, Rf G 5), (1, I row), (2, I li), (3, I first), (4, I last), (5, I p), (6, I ls), (7, I (σ 9 li)), (8, I (i + 1)), (9, I (σ 8 (10 * li + i))), (10, I (σ 2 (10 * row + (σ 8 (10 * li + i)))))]) dX1_leftmostLeast_76 (Nat.le_of_ble_eq_true rfl) rfl rfl ?_
              refine r_goto (tgt := 19) dX1_leftmostLeast_79 (by decide) ?_
              refine r_sub [0, 1, 2, 3, 4, 5, 6, 7, 8] rfl ?_
              exact ih19 _ (by omega) _ _ (i + 1) _ rfl (by omega) (by rw [lsF_s hi.1, ← hp]; refine (lpick hl ?_).symm; first | exact Or.inl ⟨rfl, by omega, by omega, by omega⟩ | exact Or.inr ⟨rfl, by omega⟩) (by first | exact hl | exact fun _ => rfl) (by omega) (by rw [hS]; first | rw [lcF_n hi.1 (by omega)] | (rw [lcF_y hi.1 (by omega), up_twice, up_eq, Int.add_assoc]))
            · skip
              refine r_iload dX1_leftmostLeast_68 rfl ?_
              refine r_istore (lv' := [(0, Rf G 5), (1, I row), (2, I li), (3, I first), (4, I last), (5, I (σ 8 (10 * li + i))), (6, I ls), (7, I (σ 9 li)), (8, I i), (9, I (σ 8 (10 * li + i))), (10, I (σ 2 (10 * row + (σ 8 (10 * li + i)))))]) dX1_leftmostLeast_70 (Nat.le_of_ble_eq_true rfl) rfl ?_
              refine r_iload dX1_leftmostLeast_72 rfl ?_
              refine r_istore (lv' := [(0, Rf G 5), (1, I row), (2, I li), (3, I first), (4, I last), (5, I (σ 8 (10 * li + i))), (6, I (σ 2 (10 * row + (σ 8 (10 * li + i))))), (7, I (σ 9 li)), (8, I i), (9, I (σ 8 (10 * li + i))), (10, I (σ 2 (10 * row + (σ 8 (10 * li + i)))))]) dX1_leftmostLeast_74 (Nat.le_of_ble_eq_true rfl) rfl ?_
              refine r_iinc (lv' := [(0, Rf G 5), (1, I row), (2, I li), (3, I first), (4, I last), (5, I (σ 8 (10 * li + i))), (6, I (σ 2 (10 * row + (σ 8 (10 * li + i))))), (7, I (σ 9 li)), (8, I (i + 1)), (9, I (σ 8 (10 * li + i))), (10, I (σ 2 (10 * row + (σ 8 (10 * li + i)))))]) dX1_leftmostLeast_76 (Nat.le_of_ble_eq_true rfl) rfl rfl ?_
              refine r_goto (tgt := 19) dX1_leftmostLeast_79 (by decide) ?_
              refine r_sub [0, 1, 2, 3, 4, 5, 6, 7, 8] rfl ?_
              exact ih19 _ (by omega) _ _ (i + 1) _ rfl (by omega) (by rw [lsF_s hi.1, ← hp]; refine (lpick hl ?_).symm; first | exact Or.inl ⟨rfl, by omega, by omega, by omega⟩ | exact Or.inr ⟨rfl, by omega⟩) (by first | exact hl | exact fun _ => rfl) (by omega) (by rw [hS]; first | rw [lcF_n hi.1 (by omega)] | (rw [lcF_y hi.1 (by omega), up_twice, up_eq, Int.add_assoc]))
      · skip
        refine r_if_eq (tgt := 76) dX1_leftmostLeast_43 (by decide) (by omega) (fun hb6 => ?_) (fun hb6 => ?_)
        · skip
          refine r_iinc (lv' := [(0, Rf G 5), (1, I row), (2, I li), (3, I first), (4, I last), (5, I p), (6, I ls), (7, I (σ 9 li)), (8, I (i + 1)), (9, I (σ 8 (10 * li + i)))]) dX1_leftmostLeast_76 (Nat.le_of_ble_eq_true rfl) rfl rfl ?_
          refine r_goto (tgt := 19) dX1_leftmostLeast_79 (by decide) ?_
          refine r_sub [0, 1, 2, 3, 4, 5, 6, 7, 8] rfl ?_
          exact ih19 _ (by omega) _ _ (i + 1) _ rfl (by omega) (by rw [lsF_s hi.1, ← hp]; refine (lpick hl ?_).symm; first | exact Or.inl ⟨rfl, by omega, by omega, by omega⟩ | exact Or.inr ⟨rfl, by omega⟩) (by first | exact hl | exact fun _ => rfl) (by omega) (by rw [hS]; first | rw [lcF_n hi.1 (by omega)] | (rw [lcF_y hi.1 (by omega), up_twice, up_eq, Int.add_assoc]))
        · skip
          exact absurd hb6 (by omega)
  exact L19 _ _ _ 0 _ rfl (by omega) (rfl) (fun q => absurd rfl q) (by omega) (by funext b j; simp only [up]; by_cases hb : b = 5 <;> by_cases hj : j = 6 <;> simp [hb, hj, lcF])
