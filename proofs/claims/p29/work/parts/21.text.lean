variable {Ω : List Ob}

/-- a reader's state: row, column, columns of the first row, digits, number, the numbers told -/
abbrev AS : Type := Int × Int × Int × Int × Int × (Int → Int)
def fup (f : Int → Int) (i v : Int) : Int → Int := fun j => if j = i then v else f j
def nnA (dg num d : Int) : Int := if dg = 0 then d else num * 10 + d
def stp (q : AS) (c : Int) : Option AS :=
  if 48 ≤ c ∧ c ≤ 57 then
    if ¬ q.2.2.2.1 = 0 ∧ (q.2.2.2.2.1 = 0 ∨ q.2.2.2.1 = 4) then none
    else some (q.1, q.2.1, q.2.2.1, q.2.2.2.1 + 1, nnA q.2.2.2.1 q.2.2.2.2.1 (c - 48), fup q.2.2.2.2.2 (10 * q.1 + q.2.1) (nnA q.2.2.2.1 q.2.2.2.2.1 (c - 48)))
  else if c = 44 then
    if q.2.2.2.1 = 0 ∨ q.2.2.1 ≤ q.2.1 + 1 then none else some (q.1, q.2.1 + 1, q.2.2.1, 0, q.2.2.2.2.1, q.2.2.2.2.2)
  else if c = 47 then
    if q.2.2.2.1 = 0 ∨ 10 ≤ q.1 + 1 ∨ ¬ (q.1 = 0 ∨ q.2.1 + 1 = q.2.2.1) then none else some (q.1 + 1, 0, q.2.1 + 1, 0, q.2.2.2.2.1, q.2.2.2.2.2)
  else none
def AB (q : AS) : Prop := 0 ≤ q.1 ∧ q.1 ≤ 9 ∧ 0 ≤ q.2.1 ∧ q.2.1 < q.2.2.1 ∧ q.2.2.1 ≤ 10 ∧ 0 ≤ q.2.2.2.1 ∧ q.2.2.2.1 ≤ 4 ∧ 0 ≤ q.2.2.2.2.1 ∧ q.2.2.2.2.1 ≤ 9999 ∧ (q.2.2.2.1 = 1 → q.2.2.2.2.1 ≤ 9) ∧ (q.2.2.2.1 = 2 → q.2.2.2.2.1 ≤ 99) ∧ (q.2.2.2.1 = 3 → q.2.2.2.2.1 ≤ 999)
theorem stp_AB {q q' : AS} {c : Int} (hA : AB q) (h : stp q c = some q') : AB q' := by
  obtain ⟨r, co, cf, dg, nu, g⟩ := q
  simp only [AB] at hA
  simp only [stp] at h
  by_cases h1 : 48 ≤ c ∧ c ≤ 57
  · rw [if_pos h1] at h
    by_cases h2 : ¬ dg = 0 ∧ (nu = 0 ∨ dg = 4)
    · rw [if_pos h2] at h; cases h
    · rw [if_neg h2] at h
      cases h
      simp only [AB, nnA]
      by_cases h3 : dg = 0
      · rw [if_pos h3]; omega
      · rw [if_neg h3]; omega
  · rw [if_neg h1] at h
    by_cases h2 : c = 44
    · rw [if_pos h2] at h
      by_cases h3 : dg = 0 ∨ cf ≤ co + 1
      · rw [if_pos h3] at h; cases h
      · rw [if_neg h3] at h; cases h; simp only [AB]; omega
    · rw [if_neg h2] at h
      by_cases h3 : c = 47
      · rw [if_pos h3] at h
        by_cases h4 : dg = 0 ∨ 10 ≤ r + 1 ∨ ¬ (r = 0 ∨ co + 1 = cf)
        · rw [if_pos h4] at h; cases h
        · rw [if_neg h4] at h; cases h; simp only [AB]; omega
      · rw [if_neg h3] at h; cases h
def rnF (g f : Int → Int) : Nat → Option AS
  | 0 => some (0, 0, 10, 0, 0, g)
  | k + 1 => (rnF g f k).bind (fun q => stp q (f (k : Int)))
theorem rnF_s {g f : Int → Int} {i : Int} {q : AS} (h : 0 ≤ i) (hq : rnF g f i.toNat = some q) : rnF g f (i + 1).toNat = stp q (f i) := by
  rw [show (i + 1).toNat = i.toNat + 1 by omega]
  simp only [rnF]
  rw [hq, Int.toNat_of_nonneg h]
  rfl
theorem rnF_none {g f : Int → Int} {k : Nat} (h : rnF g f k = none) : ∀ n, rnF g f (k + n) = none
  | 0 => h
  | n + 1 => by
    show (rnF g f (k + n)).bind _ = none
    rw [rnF_none h n]; rfl
def erF (g f : Int → Int) : Nat → Int
  | 0 => 0
  | k + 1 => if (rnF g f (k + 1)).isSome then ((k + 1 : Nat) : Int) else erF g f k
theorem erF_full {g f : Int → Int} {k : Nat} {q : AS} (h : rnF g f k = some q) : erF g f k = k := by
  cases k with
  | zero => rfl
  | succ k => simp only [erF]; rw [if_pos (by rw [h]; rfl)]
theorem erF_stop {g f : Int → Int} {i : Int} {q : AS} (hi : 0 ≤ i) (hq : rnF g f i.toNat = some q) (hn : stp q (f i) = none) : ∀ n : Nat, i ≤ n → erF g f n = i := by
  have h1 : rnF g f (i.toNat + 1) = none := by
    have := rnF_s hi hq
    rw [hn, show (i + 1).toNat = i.toNat + 1 by omega] at this
    exact this
  intro n hin
  induction n with
  | zero =>
    rw [show i = 0 by omega]; rfl
  | succ n ih =>
    by_cases e : i = ((n + 1 : Nat) : Int)
    · rw [show i.toNat = n + 1 by omega] at hq
      rw [erF_full hq, e]
    · simp only [erF]
      have h2 := rnF_none h1 (n + 1 - (i.toNat + 1))
      rw [show i.toNat + 1 + (n + 1 - (i.toNat + 1)) = n + 1 by omega] at h2
      rw [if_neg (by rw [h2]; exact fun q => by cases q)]
      exact ih (by omega)
def qs (σ : Sg) : AS := (σ 15 3, σ 15 4, σ 15 5, σ 15 6, σ 15 7, σ 17)
def tks (σ : Sg) (c : Int) : Sg :=
  if 48 ≤ c ∧ c ≤ 57 then up (up (up σ 15 7 (nnA (σ 15 6) (σ 15 7) (c - 48))) 15 6 (σ 15 6 + 1)) 17 (10 * σ 15 3 + σ 15 4) (nnA (σ 15 6) (σ 15 7) (c - 48))
  else if c = 44 then up (up σ 15 4 (σ 15 4 + 1)) 15 6 0
  else up (up (up (up σ 15 5 (σ 15 4 + 1)) 15 3 (σ 15 3 + 1)) 15 4 0) 15 6 0
def TkC (σ : Sg) (c : Int) : Prop := ((48 ≤ c ∧ c ≤ 57) ∧ ¬ (¬ σ 15 6 = 0 ∧ (σ 15 7 = 0 ∨ σ 15 6 = 4))) ∨ (c = 44 ∧ ¬ (σ 15 6 = 0 ∨ σ 15 5 ≤ σ 15 4 + 1)) ∨ (c = 47 ∧ ¬ (σ 15 6 = 0 ∨ 10 ≤ σ 15 3 + 1 ∨ ¬ (σ 15 3 = 0 ∨ σ 15 4 + 1 = σ 15 5)))
theorem stp_d {r co cf dg nu c : Int} {g : Int → Int} (h1 : 48 ≤ c ∧ c ≤ 57) (h2 : ¬ (¬ dg = 0 ∧ (nu = 0 ∨ dg = 4))) : stp (r, co, cf, dg, nu, g) c = some (r, co, cf, dg + 1, nnA dg nu (c - 48), fup g (10 * r + co) (nnA dg nu (c - 48))) := by
  simp only [stp]; rw [if_pos h1, if_neg h2]
theorem stp_c {r co cf dg nu c : Int} {g : Int → Int} (h1 : c = 44) (h2 : ¬ (dg = 0 ∨ cf ≤ co + 1)) : stp (r, co, cf, dg, nu, g) c = some (r, co + 1, cf, 0, nu, g) := by
  simp only [stp]; rw [if_neg (by omega), if_pos h1, if_neg h2]
theorem stp_s {r co cf dg nu c : Int} {g : Int → Int} (h1 : c = 47) (h2 : ¬ (dg = 0 ∨ 10 ≤ r + 1 ∨ ¬ (r = 0 ∨ co + 1 = cf))) : stp (r, co, cf, dg, nu, g) c = some (r + 1, 0, co + 1, 0, nu, g) := by
  simp only [stp]; rw [if_neg (by omega), if_neg (by omega), if_pos h1, if_neg h2]
theorem stp_n {r co cf dg nu c : Int} {g : Int → Int} (h : ¬ (((48 ≤ c ∧ c ≤ 57) ∧ ¬ (¬ dg = 0 ∧ (nu = 0 ∨ dg = 4))) ∨ (c = 44 ∧ ¬ (dg = 0 ∨ cf ≤ co + 1)) ∨ (c = 47 ∧ ¬ (dg = 0 ∨ 10 ≤ r + 1 ∨ ¬ (r = 0 ∨ co + 1 = cf))))) : stp (r, co, cf, dg, nu, g) c = none := by
  simp only [stp]
  by_cases h1 : 48 ≤ c ∧ c ≤ 57
  · rw [if_pos h1, if_pos (by omega)]
  · by_cases h2 : c = 44
    · rw [if_neg h1, if_pos h2, if_pos (by omega)]
    · by_cases h3 : c = 47
      · rw [if_neg h1, if_neg h2, if_pos h3, if_pos (by omega)]
      · rw [if_neg h1, if_neg h2, if_neg h3]
theorem tks_y {σ : Sg} {c : Int} (h : TkC σ c) : stp (qs σ) c = some (qs (tks σ c)) := by
  rcases h with ⟨h1, h2⟩ | ⟨h1, h2⟩ | ⟨h1, h2⟩
  · refine (stp_d (r := σ 15 3) (co := σ 15 4) (cf := σ 15 5) (g := σ 17) h1 h2).trans ?_
    unfold tks
    rw [if_pos h1]
    simp only [qs, up_ne (show (15 : Nat) ≠ 17 by decide), up_row]
    simp [up, fup]
    rfl
  · refine (stp_c (r := σ 15 3) (nu := σ 15 7) (g := σ 17) h1 h2).trans ?_
    unfold tks
    rw [if_neg (by omega), if_pos h1]
    simp [qs, up]
    rw [up_ne (by decide), up_ne (by decide)]
  · refine (stp_s (nu := σ 15 7) (g := σ 17) h1 h2).trans ?_
    unfold tks
    rw [if_neg (by omega), if_neg (by omega)]
    simp [qs, up]
    rw [up_ne (by decide), up_ne (by decide), up_ne (by decide), up_ne (by decide)]
theorem tks_n {σ : Sg} {c : Int} (h : ¬ TkC σ c) : stp (qs σ) c = none := stp_n h
theorem tks_ne {σ : Sg} {c : Int} {a : Nat} (h5 : a ≠ 15) (h7 : a ≠ 17) : tks σ c a = σ a := by
  unfold tks
  split
  · rw [up_ne h7, up_ne h5, up_ne h5]
  · split
    · rw [up_ne h5, up_ne h5]
    · rw [up_ne h5, up_ne h5, up_ne h5, up_ne h5]
theorem tks_0 {σ : Sg} {c : Int} : tks σ c 15 0 = σ 15 0 := by
  unfold tks
  split
  · rw [up_ne (by decide), up_nj (by decide), up_nj (by decide)]
  · split
    · rw [up_nj (by decide), up_nj (by decide)]
    · rw [up_nj (by decide), up_nj (by decide), up_nj (by decide), up_nj (by decide)]
def ReadP (σ sv : Sg) : Prop := (∀ a, a ≠ 15 → a ≠ 17 → sv a = σ a) ∧ sv 15 0 = σ 15 0 ∧ rnF (σ 17) (σ 16) (erF (σ 17) (σ 16) (σ 15 0).toNat).toNat = some (qs sv) ∧ AB (qs sv)
def TlC (σ sv : Sg) : Prop := erF (σ 17) (σ 16) (σ 15 0).toNat = σ 15 0 ∧ 0 < sv 15 6 ∧ (sv 15 3 = 0 ∨ sv 15 4 + 1 = sv 15 5)

set_option maxHeartbeats 1000000 in
set_option maxRecDepth 100000 in
theorem tX6_rowsTold (G : GT) (σ : Sg)  : Ct G mX6_rowsTold 1 0 0 false (SH Ω) (SH Ω) [Rf G 15] σ (fun rv sv => some (I (σ 15 3 + 1)) = rv ∧ σ = sv) := by
  obtain ⟨P, hP⟩ : ∃ P : Option Value → Sg → Prop, P = (fun rv sv => some (I (σ 15 3 + 1)) = rv ∧ σ = sv) := ⟨_, rfl⟩
  rw [← hP]
  refine ct_of (lv := [(0, Rf G 15)]) (by decide +kernel) (Nat.le_of_ble_eq_true rfl) rfl ?_
  refine r_aload_n dX6_rowsTold_0 rfl rfl ?_
  refine r_getI (z := 3) dX6_rowsTold_1 sh15 rfl (ci := 6) (j := 3) rfl (Nat.le_of_ble_eq_true rfl) rfl ixX6 q102 rfl (hv := rfl) ?_
  refine r_iconst dX6_rowsTold_4 ?_
  refine r_iadd dX6_rowsTold_5 ?_
  exact r_iret dX6_rowsTold_6 rfl (by rw [hP]; exact ⟨rfl, rfl⟩)
set_option maxHeartbeats 1000000 in
set_option maxRecDepth 100000 in
theorem tX6_columnsTold (G : GT) (σ : Sg)  : Ct G mX6_columnsTold 1 0 0 false (SH Ω) (SH Ω) [Rf G 15] σ (fun rv sv => some (I (σ 15 4 + 1)) = rv ∧ σ = sv) := by
  obtain ⟨P, hP⟩ : ∃ P : Option Value → Sg → Prop, P = (fun rv sv => some (I (σ 15 4 + 1)) = rv ∧ σ = sv) := ⟨_, rfl⟩
  rw [← hP]
  refine ct_of (lv := [(0, Rf G 15)]) (by decide +kernel) (Nat.le_of_ble_eq_true rfl) rfl ?_
  refine r_aload_n dX6_columnsTold_0 rfl rfl ?_
  refine r_getI (z := 4) dX6_columnsTold_1 sh15 rfl (ci := 6) (j := 4) rfl (Nat.le_of_ble_eq_true rfl) rfl ixX6 q103 rfl (hv := rfl) ?_
  refine r_iconst dX6_columnsTold_4 ?_
  refine r_iadd dX6_columnsTold_5 ?_
  exact r_iret dX6_columnsTold_6 rfl (by rw [hP]; exact ⟨rfl, rfl⟩)
set_option maxHeartbeats 1000000 in
set_option maxRecDepth 100000 in
theorem tX6_numberTold (G : GT) (σ : Sg) (r c : Int) (h : 0 ≤ r ∧ r < 10 ∧ 0 ≤ c ∧ c < 10) : Ct G mX6_numberTold 2 0 0 false (SH Ω) (SH Ω) [Rf G 15, I r, I c] σ (fun rv sv => some (I (σ 17 (10 * r + c))) = rv ∧ σ = sv) := by
  obtain ⟨P, hP⟩ : ∃ P : Option Value → Sg → Prop, P = (fun rv sv => some (I (σ 17 (10 * r + c))) = rv ∧ σ = sv) := ⟨_, rfl⟩
  rw [← hP]
  refine ct_of (lv := [(0, Rf G 15), (1, I r), (2, I c)]) (by decide +kernel) (Nat.le_of_ble_eq_true rfl) rfl ?_
  refine r_aload_n dX6_numberTold_0 rfl rfl ?_
  refine r_getR (b := 17) dX6_numberTold_1 sh15 rfl (ci := 6) (j := 2) rfl (Nat.le_of_ble_eq_true rfl) ixX6 q101 rfl ?_
  refine r_iload_n dX6_numberTold_4 rfl rfl ?_
  refine r_bipush dX6_numberTold_5 rfl ?_
  refine r_imul dX6_numberTold_7 ?_
  refine r_iload_n dX6_numberTold_8 rfl rfl ?_
  refine r_iadd dX6_numberTold_9 ?_
  refine r_callSN (tX7_numberIn G σ 17 ((r * 10) + c) 100 (sh17) (by omega)) dX6_numberTold_10 svX7_numberIn nw10 rfl ⟨Nat.le_of_ble_eq_true rfl, Nat.le_of_ble_eq_true rfl⟩ (Nat.le_of_ble_eq_true rfl) ⟨Nat.le_of_ble_eq_true rfl, Nat.le_of_ble_eq_true rfl⟩ ?_
  rintro _ _ ⟨rfl, rfl⟩
  exact r_iret dX6_numberTold_13 rfl (by rw [hP]; exact ⟨by rw [show r * 10 + c = 10 * r + c by omega], rfl⟩)
set_option maxHeartbeats 1000000 in
set_option maxRecDepth 100000 in
theorem tX6_codeAt (G : GT) (σ : Sg) (i : Int) (h : 0 ≤ i ∧ i < 60) : Ct G mX6_codeAt 2 0 0 false (SH Ω) (SH Ω) [Rf G 15, I i] σ (fun rv sv => some (I (σ 16 i)) = rv ∧ σ = sv) := by
  obtain ⟨P, hP⟩ : ∃ P : Option Value → Sg → Prop, P = (fun rv sv => some (I (σ 16 i)) = rv ∧ σ = sv) := ⟨_, rfl⟩
  rw [← hP]
  refine ct_of (lv := [(0, Rf G 15), (1, I i)]) (by decide +kernel) (Nat.le_of_ble_eq_true rfl) rfl ?_
  refine r_aload_n dX6_codeAt_0 rfl rfl ?_
  refine r_getR (b := 16) dX6_codeAt_1 sh15 rfl (ci := 6) (j := 1) rfl (Nat.le_of_ble_eq_true rfl) ixX6 q100 rfl ?_
  refine r_iload_n dX6_codeAt_4 rfl rfl ?_
  refine r_callSN (tX7_numberIn G σ 16 i 60 (sh16) (by omega)) dX6_codeAt_5 svX7_numberIn nw10 rfl ⟨Nat.le_of_ble_eq_true rfl, Nat.le_of_ble_eq_true rfl⟩ (Nat.le_of_ble_eq_true rfl) ⟨Nat.le_of_ble_eq_true rfl, Nat.le_of_ble_eq_true rfl⟩ ?_
  rintro _ _ ⟨rfl, rfl⟩
  exact r_iret dX6_codeAt_8 rfl (by rw [hP]; exact ⟨rfl, rfl⟩)
set_option maxHeartbeats 1000000 in
set_option maxRecDepth 100000 in
theorem tX6_add (G : GT) (σ : Sg) (c : Int) (h : 0 ≤ σ 15 0 ∧ σ 15 0 < 60) : Ct G mX6_add 2 0 0 false (SH Ω) (SH Ω) [Rf G 15, I c] σ (fun rv sv => none = rv ∧ up (up σ 16 (σ 15 0) c) 15 0 (σ 15 0 + 1) = sv) := by
  obtain ⟨P, hP⟩ : ∃ P : Option Value → Sg → Prop, P = (fun rv sv => none = rv ∧ up (up σ 16 (σ 15 0) c) 15 0 (σ 15 0 + 1) = sv) := ⟨_, rfl⟩
  rw [← hP]
  refine ct_of (lv := [(0, Rf G 15), (1, I c)]) (by decide +kernel) (Nat.le_of_ble_eq_true rfl) rfl ?_
  refine r_aload_n dX6_add_0 rfl rfl ?_
  refine r_getR (b := 16) dX6_add_1 sh15 rfl (ci := 6) (j := 1) rfl (Nat.le_of_ble_eq_true rfl) ixX6 q100 rfl ?_
  refine r_aload_n dX6_add_4 rfl rfl ?_
  refine r_getI (z := 0) dX6_add_5 sh15 rfl (ci := 6) (j := 0) rfl (Nat.le_of_ble_eq_true rfl) rfl ixX6 q98 rfl (hv := rfl) ?_
  refine r_iload_n dX6_add_8 rfl rfl ?_
  refine r_callSN (tX7_setIn G σ 16 (σ 15 0) c 60 (sh16) (by omega)) dX6_add_9 svX7_setIn nw9 rfl ⟨Nat.le_of_ble_eq_true rfl, Nat.le_of_ble_eq_true rfl⟩ (Nat.le_of_ble_eq_true rfl) ⟨Nat.le_of_ble_eq_true rfl, Nat.le_of_ble_eq_true rfl⟩ ?_
  rintro _ _ ⟨rfl, rfl⟩
  refine r_aload_n dX6_add_12 rfl rfl ?_
  refine r_dup dX6_add_13 rfl ?_
  refine r_getI (z := 0) dX6_add_14 sh15 rfl (ci := 6) (j := 0) rfl (Nat.le_of_ble_eq_true rfl) rfl ixX6 q98 rfl (hv := congrFun (up_ne (by decide)) 0) ?_
  refine r_iconst dX6_add_17 ?_
  refine r_iadd dX6_add_18 ?_
  refine r_putI (z := 0) tyX6 dX6_add_19 sh15 rfl (ci := 6) (j := 0) rfl (Nat.le_of_ble_eq_true rfl) rfl tyX6_ok nmX6 ixX6 q98 rfl rfl rfl ?_
  exact r_vret dX6_add_22 rfl (by rw [hP]; exact ⟨rfl, rfl⟩)
set_option maxHeartbeats 1000000 in
set_option maxRecDepth 100000 in
theorem tX6_clear (G : GT) (σ : Sg)  : Ct G mX6_clear 1 0 0 false (SH Ω) (SH Ω) [Rf G 15] σ (fun rv sv => none = rv ∧ up σ 15 0 0 = sv) := by
  obtain ⟨P, hP⟩ : ∃ P : Option Value → Sg → Prop, P = (fun rv sv => none = rv ∧ up σ 15 0 0 = sv) := ⟨_, rfl⟩
  rw [← hP]
  refine ct_of (lv := [(0, Rf G 15)]) (by decide +kernel) (Nat.le_of_ble_eq_true rfl) rfl ?_
  refine r_aload_n dX6_clear_0 rfl rfl ?_
  refine r_iconst dX6_clear_1 ?_
  refine r_putI (z := 0) tyX6 dX6_clear_2 sh15 rfl (ci := 6) (j := 0) rfl (Nat.le_of_ble_eq_true rfl) rfl tyX6_ok nmX6 ixX6 q98 rfl rfl rfl ?_
  exact r_vret dX6_clear_5 rfl (by rw [hP]; exact ⟨rfl, rfl⟩)
set_option maxHeartbeats 1000000 in
set_option maxRecDepth 100000 in
theorem tX6_isRowFull (G : GT) (σ : Sg)  (hA : AB (qs σ)) : Ct G mX6_isRowFull 1 0 0 false (SH Ω) (SH Ω) [Rf G 15] σ (fun rv sv => (((σ 15 3 = 0 ∨ σ 15 4 + 1 = σ 15 5) ∧ some (I 1) = rv) ∨ (¬ (σ 15 3 = 0 ∨ σ 15 4 + 1 = σ 15 5) ∧ some (I 0) = rv)) ∧ σ = sv) := by
  obtain ⟨P, hP⟩ : ∃ P : Option Value → Sg → Prop, P = (fun rv sv => (((σ 15 3 = 0 ∨ σ 15 4 + 1 = σ 15 5) ∧ some (I 1) = rv) ∨ (¬ (σ 15 3 = 0 ∨ σ 15 4 + 1 = σ 15 5) ∧ some (I 0) = rv)) ∧ σ = sv) := ⟨_, rfl⟩
  rw [← hP]
  refine ct_of (lv := [(0, Rf G 15)]) (by decide +kernel) (Nat.le_of_ble_eq_true rfl) rfl ?_
  simp only [AB, qs] at hA
  refine r_aload_n dX6_isRowFull_0 rfl rfl ?_
  refine r_getI (z := 3) dX6_isRowFull_1 sh15 rfl (ci := 6) (j := 3) rfl (Nat.le_of_ble_eq_true rfl) rfl ixX6 q102 rfl (hv := rfl) ?_
  refine r_if_eq (tgt := 20) dX6_isRowFull_4 (by decide) (by omega) (fun hb1 => ?_) (fun hb1 => ?_)
  · skip
    refine r_iconst dX6_isRowFull_20 ?_
    refine r_goto (tgt := 25) dX6_isRowFull_21 (by decide) ?_
    exact r_zret dX6_isRowFull_25 rfl (by first | rfl | decide) (by rw [hP]; exact ⟨by first | exact Or.inl ⟨by omega, rfl⟩ | exact Or.inr ⟨by omega, rfl⟩, rfl⟩)
  · skip
    refine r_aload_n dX6_isRowFull_7 rfl rfl ?_
    refine r_getI (z := 4) dX6_isRowFull_8 sh15 rfl (ci := 6) (j := 4) rfl (Nat.le_of_ble_eq_true rfl) rfl ixX6 q103 rfl (hv := rfl) ?_
    refine r_iconst dX6_isRowFull_11 ?_
    refine r_iadd dX6_isRowFull_12 ?_
    refine r_aload_n dX6_isRowFull_13 rfl rfl ?_
    refine r_getI (z := 5) dX6_isRowFull_14 sh15 rfl (ci := 6) (j := 5) rfl (Nat.le_of_ble_eq_true rfl) rfl ixX6 q104 rfl (hv := rfl) ?_
    refine r_icmp_ne (tgt := 24) dX6_isRowFull_17 (by decide) (by omega) (fun hb2 => ?_) (fun hb2 => ?_)
    · skip
      refine r_iconst dX6_isRowFull_24 ?_
      exact r_zret dX6_isRowFull_25 rfl (by first | rfl | decide) (by rw [hP]; exact ⟨by first | exact Or.inl ⟨by omega, rfl⟩ | exact Or.inr ⟨by omega, rfl⟩, rfl⟩)
    · skip
      refine r_iconst dX6_isRowFull_20 ?_
      refine r_goto (tgt := 25) dX6_isRowFull_21 (by decide) ?_
      exact r_zret dX6_isRowFull_25 rfl (by first | rfl | decide) (by rw [hP]; exact ⟨by first | exact Or.inl ⟨by omega, rfl⟩ | exact Or.inr ⟨by omega, rfl⟩, rfl⟩)
set_option maxHeartbeats 1000000 in
set_option maxRecDepth 100000 in
theorem tX6_takesDigit (G : GT) (σ : Sg) (d : Int) (hA : AB (qs σ)) (h : 0 ≤ d ∧ d ≤ 9) : Ct G mX6_takesDigit 2 0 0 false (SH Ω) (SH Ω) [Rf G 15, I d] σ (fun rv sv => ((¬ (¬ σ 15 6 = 0 ∧ (σ 15 7 = 0 ∨ σ 15 6 = 4))) ∧ some (I 1) = rv ∧ up (up (up σ 15 7 (nnA (σ 15 6) (σ 15 7) d)) 15 6 (σ 15 6 + 1)) 17 (10 * σ 15 3 + σ 15 4) (nnA (σ 15 6) (σ 15 7) d) = sv) ∨ (¬ (¬ (¬ σ 15 6 = 0 ∧ (σ 15 7 = 0 ∨ σ 15 6 = 4))) ∧ some (I 0) = rv ∧ σ = sv)) := by
  obtain ⟨P, hP⟩ : ∃ P : Option Value → Sg → Prop, P = (fun rv sv => ((¬ (¬ σ 15 6 = 0 ∧ (σ 15 7 = 0 ∨ σ 15 6 = 4))) ∧ some (I 1) = rv ∧ up (up (up σ 15 7 (nnA (σ 15 6) (σ 15 7) d)) 15 6 (σ 15 6 + 1)) 17 (10 * σ 15 3 + σ 15 4) (nnA (σ 15 6) (σ 15 7) d) = sv) ∨ (¬ (¬ (¬ σ 15 6 = 0 ∧ (σ 15 7 = 0 ∨ σ 15 6 = 4))) ∧ some (I 0) = rv ∧ σ = sv)) := ⟨_, rfl⟩
  rw [← hP]
  refine ct_of (lv := [(0, Rf G 15), (1, I d)]) (by decide +kernel) (Nat.le_of_ble_eq_true rfl) rfl ?_
  simp only [AB, qs] at hA
  refine r_aload_n dX6_takesDigit_0 rfl rfl ?_
  refine r_getI (z := 6) dX6_takesDigit_1 sh15 rfl (ci := 6) (j := 6) rfl (Nat.le_of_ble_eq_true rfl) rfl ixX6 q105 rfl (hv := rfl) ?_
  refine r_if_ne (tgt := 11) dX6_takesDigit_4 (by decide) (by omega) (fun hb1 => ?_) (fun hb1 => ?_)
  · skip
    refine r_iconst dX6_takesDigit_11 ?_
    refine r_istore_n (lv' := [(0, Rf G 15), (1, I d), (2, I 0)]) dX6_takesDigit_12 rfl (Nat.le_of_ble_eq_true rfl) rfl ?_
    refine r_iload_n dX6_takesDigit_13 rfl rfl ?_
    refine r_if_ne (tgt := 34) dX6_takesDigit_14 (by decide) (by omega) (fun hb2 => ?_) (fun hb2 => ?_)
    · skip
      exact absurd hb2 (by omega)
    · skip
      refine r_aload_n dX6_takesDigit_17 rfl rfl ?_
      refine r_getI (z := 7) dX6_takesDigit_18 sh15 rfl (ci := 6) (j := 7) rfl (Nat.le_of_ble_eq_true rfl) rfl ixX6 q106 rfl (hv := rfl) ?_
      refine r_if_eq (tgt := 32) dX6_takesDigit_21 (by decide) (by omega) (fun hb3 => ?_) (fun hb3 => ?_)
      · skip
        refine r_iconst dX6_takesDigit_32 ?_
        exact r_zret dX6_takesDigit_33 rfl (by first | rfl | decide) (by rw [hP]; exact by first | exact Or.inr ⟨by omega, rfl, rfl⟩ | exact Or.inl ⟨by omega, rfl, by unfold nnA; first | rw [if_pos (show σ 15 6 = 0 by omega), show 10 * σ 15 3 + σ 15 4 = σ 15 3 * 10 + σ 15 4 by omega] | rw [if_neg (show ¬ σ 15 6 = 0 by omega), show 10 * σ 15 3 + σ 15 4 = σ 15 3 * 10 + σ 15 4 by omega]⟩)
      · skip
        refine r_aload_n dX6_takesDigit_24 rfl rfl ?_
        refine r_getI (z := 6) dX6_takesDigit_25 sh15 rfl (ci := 6) (j := 6) rfl (Nat.le_of_ble_eq_true rfl) rfl ixX6 q105 rfl (hv := rfl) ?_
        refine r_iconst dX6_takesDigit_28 ?_
        refine r_icmp_ne (tgt := 34) dX6_takesDigit_29 (by decide) (by omega) (fun hb4 => ?_) (fun hb4 => ?_)
        · skip
          refine r_aload_n dX6_takesDigit_34 rfl rfl ?_
          refine r_iload_n dX6_takesDigit_35 rfl rfl ?_
          refine r_if_eq (tgt := 43) dX6_takesDigit_36 (by decide) (by omega) (fun hb5 => ?_) (fun hb5 => ?_)
          · skip
            refine r_aload_n dX6_takesDigit_43 rfl rfl ?_
            refine r_getI (z := 7) dX6_takesDigit_44 sh15 rfl (ci := 6) (j := 7) rfl (Nat.le_of_ble_eq_true rfl) rfl ixX6 q106 rfl (hv := rfl) ?_
            refine r_bipush dX6_takesDigit_47 rfl ?_
            refine r_imul dX6_takesDigit_49 ?_
            refine r_iload_n dX6_takesDigit_50 rfl rfl ?_
            refine r_iadd dX6_takesDigit_51 ?_
            refine r_putI (z := 7) tyX6 dX6_takesDigit_52 sh15 rfl (ci := 6) (j := 7) rfl (Nat.le_of_ble_eq_true rfl) rfl tyX6_ok nmX6 ixX6 q106 rfl rfl rfl ?_
            refine r_aload_n dX6_takesDigit_55 rfl rfl ?_
            refine r_dup dX6_takesDigit_56 rfl ?_
            refine r_getI (z := 6) dX6_takesDigit_57 sh15 rfl (ci := 6) (j := 6) rfl (Nat.le_of_ble_eq_true rfl) rfl ixX6 q105 rfl (hv := up_nj (by decide)) ?_
            refine r_iconst dX6_takesDigit_60 ?_
            refine r_iadd dX6_takesDigit_61 ?_
            refine r_putI (z := 6) tyX6 dX6_takesDigit_62 sh15 rfl (ci := 6) (j := 6) rfl (Nat.le_of_ble_eq_true rfl) rfl tyX6_ok nmX6 ixX6 q105 rfl rfl rfl ?_
            refine r_aload_n dX6_takesDigit_65 rfl rfl ?_
            refine r_getR (b := 17) dX6_takesDigit_66 sh15 rfl (ci := 6) (j := 2) rfl (Nat.le_of_ble_eq_true rfl) ixX6 q101 rfl ?_
            refine r_aload_n dX6_takesDigit_69 rfl rfl ?_
            refine r_getI (z := 3) dX6_takesDigit_70 sh15 rfl (ci := 6) (j := 3) rfl (Nat.le_of_ble_eq_true rfl) rfl ixX6 q102 rfl (hv := (up_nj (by decide)).trans (up_nj (by decide))) ?_
            refine r_bipush dX6_takesDigit_73 rfl ?_
            refine r_imul dX6_takesDigit_75 ?_
            refine r_aload_n dX6_takesDigit_76 rfl rfl ?_
            refine r_getI (z := 4) dX6_takesDigit_77 sh15 rfl (ci := 6) (j := 4) rfl (Nat.le_of_ble_eq_true rfl) rfl ixX6 q103 rfl (hv := (up_nj (by decide)).trans (up_nj (by decide))) ?_
            refine r_iadd dX6_takesDigit_80 ?_
            refine r_aload_n dX6_takesDigit_81 rfl rfl ?_
            refine r_getI (z := 7) dX6_takesDigit_82 sh15 rfl (ci := 6) (j := 7) rfl (Nat.le_of_ble_eq_true rfl) rfl ixX6 q106 rfl (hv := (up_nj (by decide)).trans (up_eq)) ?_
            refine r_callSN (tX7_setIn G (up (up σ 15 7 (((σ 15 7) * 10) + d)) 15 6 ((σ 15 6) + 1)) 17 (((σ 15 3) * 10) + (σ 15 4)) (((σ 15 7) * 10) + d) 100 (sh17) (by omega)) dX6_takesDigit_85 svX7_setIn nw9 rfl ⟨Nat.le_of_ble_eq_true rfl, Nat.le_of_ble_eq_true rfl⟩ (Nat.le_of_ble_eq_true rfl) ⟨Nat.le_of_ble_eq_true rfl, Nat.le_of_ble_eq_true rfl⟩ ?_
            rintro _ _ ⟨rfl, rfl⟩
            refine r_iconst dX6_takesDigit_88 ?_
            exact r_zret dX6_takesDigit_89 rfl (by first | rfl | decide) (by rw [hP]; exact by first | exact Or.inr ⟨by omega, rfl, rfl⟩ | exact Or.inl ⟨by omega, rfl, by unfold nnA; first | rw [if_pos (show σ 15 6 = 0 by omega), show 10 * σ 15 3 + σ 15 4 = σ 15 3 * 10 + σ 15 4 by omega] | rw [if_neg (show ¬ σ 15 6 = 0 by omega), show 10 * σ 15 3 + σ 15 4 = σ 15 3 * 10 + σ 15 4 by omega]⟩)
          · skip
            exact absurd hb5 (by omega)
        · skip
          refine r_iconst dX6_takesDigit_32 ?_
          exact r_zret dX6_takesDigit_33 rfl (by first | rfl | decide) (by rw [hP]; exact by first | exact Or.inr ⟨by omega, rfl, rfl⟩ | exact Or.inl ⟨by omega, rfl, by unfold nnA; first | rw [if_pos (show σ 15 6 = 0 by omega), show 10 * σ 15 3 + σ 15 4 = σ 15 3 * 10 + σ 15 4 by omega] | rw [if_neg (show ¬ σ 15 6 = 0 by omega), show 10 * σ 15 3 + σ 15 4 = σ 15 3 * 10 + σ 15 4 by omega]⟩)
  · skip
    refine r_iconst dX6_takesDigit_7 ?_
    refine r_goto (tgt := 12) dX6_takesDigit_8 (by decide) ?_
    refine r_istore_n (lv' := [(0, Rf G 15), (1, I d), (2, I 1)]) dX6_takesDigit_12 rfl (Nat.le_of_ble_eq_true rfl) rfl ?_
    refine r_iload_n dX6_takesDigit_13 rfl rfl ?_
    refine r_if_ne (tgt := 34) dX6_takesDigit_14 (by decide) (by omega) (fun hb6 => ?_) (fun hb6 => ?_)
    · skip
      refine r_aload_n dX6_takesDigit_34 rfl rfl ?_
      refine r_iload_n dX6_takesDigit_35 rfl rfl ?_
      refine r_if_eq (tgt := 43) dX6_takesDigit_36 (by decide) (by omega) (fun hb7 => ?_) (fun hb7 => ?_)
      · skip
        exact absurd hb7 (by omega)
      · skip
        refine r_iload_n dX6_takesDigit_39 rfl rfl ?_
        refine r_goto (tgt := 52) dX6_takesDigit_40 (by decide) ?_
        refine r_putI (z := 7) tyX6 dX6_takesDigit_52 sh15 rfl (ci := 6) (j := 7) rfl (Nat.le_of_ble_eq_true rfl) rfl tyX6_ok nmX6 ixX6 q106 rfl rfl rfl ?_
        refine r_aload_n dX6_takesDigit_55 rfl rfl ?_
        refine r_dup dX6_takesDigit_56 rfl ?_
        refine r_getI (z := 6) dX6_takesDigit_57 sh15 rfl (ci := 6) (j := 6) rfl (Nat.le_of_ble_eq_true rfl) rfl ixX6 q105 rfl (hv := up_nj (by decide)) ?_
        refine r_iconst dX6_takesDigit_60 ?_
        refine r_iadd dX6_takesDigit_61 ?_
        refine r_putI (z := 6) tyX6 dX6_takesDigit_62 sh15 rfl (ci := 6) (j := 6) rfl (Nat.le_of_ble_eq_true rfl) rfl tyX6_ok nmX6 ixX6 q105 rfl rfl rfl ?_
        refine r_aload_n dX6_takesDigit_65 rfl rfl ?_
        refine r_getR (b := 17) dX6_takesDigit_66 sh15 rfl (ci := 6) (j := 2) rfl (Nat.le_of_ble_eq_true rfl) ixX6 q101 rfl ?_
        refine r_aload_n dX6_takesDigit_69 rfl rfl ?_
        refine r_getI (z := 3) dX6_takesDigit_70 sh15 rfl (ci := 6) (j := 3) rfl (Nat.le_of_ble_eq_true rfl) rfl ixX6 q102 rfl (hv := (up_nj (by decide)).trans (up_nj (by decide))) ?_
        refine r_bipush dX6_takesDigit_73 rfl ?_
        refine r_imul dX6_takesDigit_75 ?_
        refine r_aload_n dX6_takesDigit_76 rfl rfl ?_
        refine r_getI (z := 4) dX6_takesDigit_77 sh15 rfl (ci := 6) (j := 4) rfl (Nat.le_of_ble_eq_true rfl) rfl ixX6 q103 rfl (hv := (up_nj (by decide)).trans (up_nj (by decide))) ?_
        refine r_iadd dX6_takesDigit_80 ?_
        refine r_aload_n dX6_takesDigit_81 rfl rfl ?_
        refine r_getI (z := 7) dX6_takesDigit_82 sh15 rfl (ci := 6) (j := 7) rfl (Nat.le_of_ble_eq_true rfl) rfl ixX6 q106 rfl (hv := (up_nj (by decide)).trans (up_eq)) ?_
        refine r_callSN (tX7_setIn G (up (up σ 15 7 d) 15 6 ((σ 15 6) + 1)) 17 (((σ 15 3) * 10) + (σ 15 4)) d 100 (sh17) (by omega)) dX6_takesDigit_85 svX7_setIn nw9 rfl ⟨Nat.le_of_ble_eq_true rfl, Nat.le_of_ble_eq_true rfl⟩ (Nat.le_of_ble_eq_true rfl) ⟨Nat.le_of_ble_eq_true rfl, Nat.le_of_ble_eq_true rfl⟩ ?_
        rintro _ _ ⟨rfl, rfl⟩
        refine r_iconst dX6_takesDigit_88 ?_
        exact r_zret dX6_takesDigit_89 rfl (by first | rfl | decide) (by rw [hP]; exact by first | exact Or.inr ⟨by omega, rfl, rfl⟩ | exact Or.inl ⟨by omega, rfl, by unfold nnA; first | rw [if_pos (show σ 15 6 = 0 by omega), show 10 * σ 15 3 + σ 15 4 = σ 15 3 * 10 + σ 15 4 by omega] | rw [if_neg (show ¬ σ 15 6 = 0 by omega), show 10 * σ 15 3 + σ 15 4 = σ 15 3 * 10 + σ 15 4 by omega]⟩)
    · skip
      exact absurd hb6 (by omega)
set_option maxHeartbeats 1000000 in
set_option maxRecDepth 100000 in
theorem tX6_takesComma (G : GT) (σ : Sg)  (hA : AB (qs σ)) : Ct G mX6_takesComma 1 0 0 false (SH Ω) (SH Ω) [Rf G 15] σ (fun rv sv => ((¬ (σ 15 6 = 0 ∨ σ 15 5 ≤ σ 15 4 + 1)) ∧ some (I 1) = rv ∧ up (up σ 15 4 (σ 15 4 + 1)) 15 6 0 = sv) ∨ (¬ (¬ (σ 15 6 = 0 ∨ σ 15 5 ≤ σ 15 4 + 1)) ∧ some (I 0) = rv ∧ σ = sv)) := by
  obtain ⟨P, hP⟩ : ∃ P : Option Value → Sg → Prop, P = (fun rv sv => ((¬ (σ 15 6 = 0 ∨ σ 15 5 ≤ σ 15 4 + 1)) ∧ some (I 1) = rv ∧ up (up σ 15 4 (σ 15 4 + 1)) 15 6 0 = sv) ∨ (¬ (¬ (σ 15 6 = 0 ∨ σ 15 5 ≤ σ 15 4 + 1)) ∧ some (I 0) = rv ∧ σ = sv)) := ⟨_, rfl⟩
  rw [← hP]
  refine ct_of (lv := [(0, Rf G 15)]) (by decide +kernel) (Nat.le_of_ble_eq_true rfl) rfl ?_
  simp only [AB, qs] at hA
  refine r_aload_n dX6_takesComma_0 rfl rfl ?_
  refine r_getI (z := 6) dX6_takesComma_1 sh15 rfl (ci := 6) (j := 6) rfl (Nat.le_of_ble_eq_true rfl) rfl ixX6 q105 rfl (hv := rfl) ?_
  refine r_if_eq (tgt := 20) dX6_takesComma_4 (by decide) (by omega) (fun hb1 => ?_) (fun hb1 => ?_)
  · skip
    refine r_iconst dX6_takesComma_20 ?_
    exact r_zret dX6_takesComma_21 rfl (by first | rfl | decide) (by rw [hP]; exact by first | exact Or.inl ⟨by omega, rfl, rfl⟩ | exact Or.inr ⟨by omega, rfl, rfl⟩)
  · skip
    refine r_aload_n dX6_takesComma_7 rfl rfl ?_
    refine r_getI (z := 4) dX6_takesComma_8 sh15 rfl (ci := 6) (j := 4) rfl (Nat.le_of_ble_eq_true rfl) rfl ixX6 q103 rfl (hv := rfl) ?_
    refine r_iconst dX6_takesComma_11 ?_
    refine r_iadd dX6_takesComma_12 ?_
    refine r_aload_n dX6_takesComma_13 rfl rfl ?_
    refine r_getI (z := 5) dX6_takesComma_14 sh15 rfl (ci := 6) (j := 5) rfl (Nat.le_of_ble_eq_true rfl) rfl ixX6 q104 rfl (hv := rfl) ?_
    refine r_icmp_lt (tgt := 22) dX6_takesComma_17 (by decide) (by omega) (fun hb2 => ?_) (fun hb2 => ?_)
    · skip
      refine r_aload_n dX6_takesComma_22 rfl rfl ?_
      refine r_dup dX6_takesComma_23 rfl ?_
      refine r_getI (z := 4) dX6_takesComma_24 sh15 rfl (ci := 6) (j := 4) rfl (Nat.le_of_ble_eq_true rfl) rfl ixX6 q103 rfl (hv := rfl) ?_
      refine r_iconst dX6_takesComma_27 ?_
      refine r_iadd dX6_takesComma_28 ?_
      refine r_putI (z := 4) tyX6 dX6_takesComma_29 sh15 rfl (ci := 6) (j := 4) rfl (Nat.le_of_ble_eq_true rfl) rfl tyX6_ok nmX6 ixX6 q103 rfl rfl rfl ?_
      refine r_aload_n dX6_takesComma_32 rfl rfl ?_
      refine r_iconst dX6_takesComma_33 ?_
      refine r_putI (z := 6) tyX6 dX6_takesComma_34 sh15 rfl (ci := 6) (j := 6) rfl (Nat.le_of_ble_eq_true rfl) rfl tyX6_ok nmX6 ixX6 q105 rfl rfl rfl ?_
      refine r_iconst dX6_takesComma_37 ?_
      exact r_zret dX6_takesComma_38 rfl (by first | rfl | decide) (by rw [hP]; exact by first | exact Or.inl ⟨by omega, rfl, rfl⟩ | exact Or.inr ⟨by omega, rfl, rfl⟩)
    · skip
      refine r_iconst dX6_takesComma_20 ?_
      exact r_zret dX6_takesComma_21 rfl (by first | rfl | decide) (by rw [hP]; exact by first | exact Or.inl ⟨by omega, rfl, rfl⟩ | exact Or.inr ⟨by omega, rfl, rfl⟩)
set_option maxHeartbeats 1000000 in
set_option maxRecDepth 100000 in
theorem tX6_takesSlash (G : GT) (σ : Sg)  (hA : AB (qs σ)) : Ct G mX6_takesSlash 2 0 0 false (SH Ω) (SH Ω) [Rf G 15] σ (fun rv sv => ((¬ (σ 15 6 = 0 ∨ 10 ≤ σ 15 3 + 1 ∨ ¬ (σ 15 3 = 0 ∨ σ 15 4 + 1 = σ 15 5))) ∧ some (I 1) = rv ∧ up (up (up (up σ 15 5 (σ 15 4 + 1)) 15 3 (σ 15 3 + 1)) 15 4 0) 15 6 0 = sv) ∨ (¬ (¬ (σ 15 6 = 0 ∨ 10 ≤ σ 15 3 + 1 ∨ ¬ (σ 15 3 = 0 ∨ σ 15 4 + 1 = σ 15 5))) ∧ some (I 0) = rv ∧ σ = sv)) := by
  obtain ⟨P, hP⟩ : ∃ P : Option Value → Sg → Prop, P = (fun rv sv => ((¬ (σ 15 6 = 0 ∨ 10 ≤ σ 15 3 + 1 ∨ ¬ (σ 15 3 = 0 ∨ σ 15 4 + 1 = σ 15 5))) ∧ some (I 1) = rv ∧ up (up (up (up σ 15 5 (σ 15 4 + 1)) 15 3 (σ 15 3 + 1)) 15 4 0) 15 6 0 = sv) ∨ (¬ (¬ (σ 15 6 = 0 ∨ 10 ≤ σ 15 3 + 1 ∨ ¬ (σ 15 3 = 0 ∨ σ 15 4 + 1 = σ 15 5))) ∧ some (I 0) = rv ∧ σ = sv)) := ⟨_, rfl⟩
  rw [← hP]
  refine ct_of (lv := [(0, Rf G 15)]) (by decide +kernel) (Nat.le_of_ble_eq_true rfl) rfl ?_
  have hA0 := hA
  simp only [AB, qs] at hA
  refine r_aload_n dX6_takesSlash_0 rfl rfl ?_
  refine r_getI (z := 6) dX6_takesSlash_1 sh15 rfl (ci := 6) (j := 6) rfl (Nat.le_of_ble_eq_true rfl) rfl ixX6 q105 rfl (hv := rfl) ?_
  refine r_if_eq (tgt := 25) dX6_takesSlash_4 (by decide) (by omega) (fun hb1 => ?_) (fun hb1 => ?_)
  · skip
    refine r_iconst dX6_takesSlash_25 ?_
    exact r_zret dX6_takesSlash_26 rfl (by first | rfl | decide) (by rw [hP]; exact by first | exact Or.inl ⟨by omega, rfl, rfl⟩ | exact Or.inr ⟨by omega, rfl, rfl⟩)
  · skip
    refine r_aload_n dX6_takesSlash_7 rfl rfl ?_
    refine r_getI (z := 3) dX6_takesSlash_8 sh15 rfl (ci := 6) (j := 3) rfl (Nat.le_of_ble_eq_true rfl) rfl ixX6 q102 rfl (hv := rfl) ?_
    refine r_iconst dX6_takesSlash_11 ?_
    refine r_iadd dX6_takesSlash_12 ?_
    refine r_bipush dX6_takesSlash_13 rfl ?_
    refine r_icmp_ge (tgt := 25) dX6_takesSlash_15 (by decide) (by omega) (fun hb2 => ?_) (fun hb2 => ?_)
    · skip
      refine r_iconst dX6_takesSlash_25 ?_
      exact r_zret dX6_takesSlash_26 rfl (by first | rfl | decide) (by rw [hP]; exact by first | exact Or.inl ⟨by omega, rfl, rfl⟩ | exact Or.inr ⟨by omega, rfl, rfl⟩)
    · skip
      refine r_aload_n dX6_takesSlash_18 rfl rfl ?_
      refine r_callV (tX6_isRowFull G σ  (hA0)) dX6_takesSlash_19 svX6_isRowFull q435 sh15 (ci := 6) rfl rfl rfl ⟨Nat.le_of_ble_eq_true rfl, Nat.le_of_ble_eq_true rfl⟩ (Nat.le_of_ble_eq_true rfl) ⟨Nat.le_of_ble_eq_true rfl, Nat.le_of_ble_eq_true rfl⟩ ?_
      rintro _ _ ⟨⟨hq3, rfl⟩ | ⟨hq3, rfl⟩, rfl⟩
      · skip
        refine r_if_ne (tgt := 27) dX6_takesSlash_22 (by decide) (by omega) (fun hb4 => ?_) (fun hb4 => ?_)
        · skip
          refine r_aload_n dX6_takesSlash_27 rfl rfl ?_
          refine r_aload_n dX6_takesSlash_28 rfl rfl ?_
          refine r_getI (z := 4) dX6_takesSlash_29 sh15 rfl (ci := 6) (j := 4) rfl (Nat.le_of_ble_eq_true rfl) rfl ixX6 q103 rfl (hv := rfl) ?_
          refine r_iconst dX6_takesSlash_32 ?_
          refine r_iadd dX6_takesSlash_33 ?_
          refine r_putI (z := 5) tyX6 dX6_takesSlash_34 sh15 rfl (ci := 6) (j := 5) rfl (Nat.le_of_ble_eq_true rfl) rfl tyX6_ok nmX6 ixX6 q104 rfl rfl rfl ?_
          refine r_aload_n dX6_takesSlash_37 rfl rfl ?_
          refine r_dup dX6_takesSlash_38 rfl ?_
          refine r_getI (z := 3) dX6_takesSlash_39 sh15 rfl (ci := 6) (j := 3) rfl (Nat.le_of_ble_eq_true rfl) rfl ixX6 q102 rfl (hv := up_nj (by decide)) ?_
          refine r_iconst dX6_takesSlash_42 ?_
          refine r_iadd dX6_takesSlash_43 ?_
          refine r_putI (z := 3) tyX6 dX6_takesSlash_44 sh15 rfl (ci := 6) (j := 3) rfl (Nat.le_of_ble_eq_true rfl) rfl tyX6_ok nmX6 ixX6 q102 rfl rfl rfl ?_
          refine r_aload_n dX6_takesSlash_47 rfl rfl ?_
          refine r_iconst dX6_takesSlash_48 ?_
          refine r_putI (z := 4) tyX6 dX6_takesSlash_49 sh15 rfl (ci := 6) (j := 4) rfl (Nat.le_of_ble_eq_true rfl) rfl tyX6_ok nmX6 ixX6 q103 rfl rfl rfl ?_
          refine r_aload_n dX6_takesSlash_52 rfl rfl ?_
          refine r_iconst dX6_takesSlash_53 ?_
          refine r_putI (z := 6) tyX6 dX6_takesSlash_54 sh15 rfl (ci := 6) (j := 6) rfl (Nat.le_of_ble_eq_true rfl) rfl tyX6_ok nmX6 ixX6 q105 rfl rfl rfl ?_
          refine r_iconst dX6_takesSlash_57 ?_
          exact r_zret dX6_takesSlash_58 rfl (by first | rfl | decide) (by rw [hP]; exact by first | exact Or.inl ⟨by omega, rfl, rfl⟩ | exact Or.inr ⟨by omega, rfl, rfl⟩)
        · skip
          exact absurd hb4 (by omega)
      · skip
        refine r_if_ne (tgt := 27) dX6_takesSlash_22 (by decide) (by omega) (fun hb5 => ?_) (fun hb5 => ?_)
        · skip
          exact absurd hb5 (by omega)
        · skip
          refine r_iconst dX6_takesSlash_25 ?_
          exact r_zret dX6_takesSlash_26 rfl (by first | rfl | decide) (by rw [hP]; exact by first | exact Or.inl ⟨by omega, rfl, rfl⟩ | exact Or.inr ⟨by omega, rfl, rfl⟩)
set_option maxHeartbeats 1000000 in
set_option maxRecDepth 100000 in
theorem tX6_takes (G : GT) (σ : Sg) (c : Int) (hA : AB (qs σ)) (h : 0 ≤ c ∧ c ≤ 1000) : Ct G mX6_takes 3 0 0 false (SH Ω) (SH Ω) [Rf G 15, I c] σ (fun rv sv => ((TkC σ c) ∧ some (I 1) = rv ∧ tks σ c = sv) ∨ (¬ (TkC σ c) ∧ some (I 0) = rv ∧ σ = sv)) := by
  obtain ⟨P, hP⟩ : ∃ P : Option Value → Sg → Prop, P = (fun rv sv => ((TkC σ c) ∧ some (I 1) = rv ∧ tks σ c = sv) ∨ (¬ (TkC σ c) ∧ some (I 0) = rv ∧ σ = sv)) := ⟨_, rfl⟩
  rw [← hP]
  refine ct_of (lv := [(0, Rf G 15), (1, I c)]) (by decide +kernel) (Nat.le_of_ble_eq_true rfl) rfl ?_
  refine r_iload_n dX6_takes_0 rfl rfl ?_
  refine r_bipush dX6_takes_1 rfl ?_
  refine r_bipush dX6_takes_3 rfl ?_
  refine r_callSN (tX7_isFromTo G σ c 48 57 (by omega)) dX6_takes_5 svX7_isFromTo nw11 rfl ⟨Nat.le_of_ble_eq_true rfl, Nat.le_of_ble_eq_true rfl⟩ (Nat.le_of_ble_eq_true rfl) ⟨Nat.le_of_ble_eq_true rfl, Nat.le_of_ble_eq_true rfl⟩ ?_
  rintro _ _ ⟨⟨hq1, rfl⟩ | ⟨hq1, rfl⟩, rfl⟩
  · skip
    refine r_if_eq (tgt := 20) dX6_takes_8 (by decide) (by omega) (fun hb2 => ?_) (fun hb2 => ?_)
    · skip
      exact absurd hb2 (by omega)
    · skip
      refine r_aload_n dX6_takes_11 rfl rfl ?_
      refine r_iload_n dX6_takes_12 rfl rfl ?_
      refine r_bipush dX6_takes_13 rfl ?_
      refine r_isub dX6_takes_15 ?_
      refine r_callV (tX6_takesDigit G σ (c - 48) (hA) (by omega)) dX6_takes_16 svX6_takesDigit q426 sh15 (ci := 6) rfl rfl rfl ⟨Nat.le_of_ble_eq_true rfl, Nat.le_of_ble_eq_true rfl⟩ (Nat.le_of_ble_eq_true rfl) ⟨Nat.le_of_ble_eq_true rfl, Nat.le_of_ble_eq_true rfl⟩ ?_
      rintro _ _ (⟨hq3, rfl, rfl⟩ | ⟨hq3, rfl, rfl⟩)
      · skip
        exact r_zret dX6_takes_19 rfl (by first | rfl | decide) (by rw [hP]; exact by unfold TkC tks; first | exact Or.inr ⟨by omega, rfl, rfl⟩ | exact Or.inl ⟨by omega, rfl, by first | rw [if_pos (show 48 ≤ c ∧ c ≤ 57 by omega)] | rw [if_neg (show ¬ (48 ≤ c ∧ c ≤ 57) by omega), if_pos (show c = 44 by omega)] | rw [if_neg (show ¬ (48 ≤ c ∧ c ≤ 57) by omega), if_neg (show ¬ c = 44 by omega)]⟩)
      · skip
        exact r_zret dX6_takes_19 rfl (by first | rfl | decide) (by rw [hP]; exact by unfold TkC tks; first | exact Or.inr ⟨by omega, rfl, rfl⟩ | exact Or.inl ⟨by omega, rfl, by first | rw [if_pos (show 48 ≤ c ∧ c ≤ 57 by omega)] | rw [if_neg (show ¬ (48 ≤ c ∧ c ≤ 57) by omega), if_pos (show c = 44 by omega)] | rw [if_neg (show ¬ (48 ≤ c ∧ c ≤ 57) by omega), if_neg (show ¬ c = 44 by omega)]⟩)
  · skip
    refine r_if_eq (tgt := 20) dX6_takes_8 (by decide) (by omega) (fun hb4 => ?_) (fun hb4 => ?_)
    · skip
      refine r_iload_n dX6_takes_20 rfl rfl ?_
      refine r_bipush dX6_takes_21 rfl ?_
      refine r_icmp_ne (tgt := 31) dX6_takes_23 (by decide) (by omega) (fun hb5 => ?_) (fun hb5 => ?_)
      · skip
        refine r_iload_n dX6_takes_31 rfl rfl ?_
        refine r_bipush dX6_takes_32 rfl ?_
        refine r_icmp_ne (tgt := 48) dX6_takes_34 (by decide) (by omega) (fun hb6 => ?_) (fun hb6 => ?_)
        · skip
          refine r_iconst dX6_takes_48 ?_
          exact r_zret dX6_takes_49 rfl (by first | rfl | decide) (by rw [hP]; exact by unfold TkC tks; first | exact Or.inr ⟨by omega, rfl, rfl⟩ | exact Or.inl ⟨by omega, rfl, by first | rw [if_pos (show 48 ≤ c ∧ c ≤ 57 by omega)] | rw [if_neg (show ¬ (48 ≤ c ∧ c ≤ 57) by omega), if_pos (show c = 44 by omega)] | rw [if_neg (show ¬ (48 ≤ c ∧ c ≤ 57) by omega), if_neg (show ¬ c = 44 by omega)]⟩)
        · skip
          refine r_aload_n dX6_takes_37 rfl rfl ?_
          refine r_callV (tX6_takesSlash G σ  (hA)) dX6_takes_38 svX6_takesSlash q432 sh15 (ci := 6) rfl rfl rfl ⟨Nat.le_of_ble_eq_true rfl, Nat.le_of_ble_eq_true rfl⟩ (Nat.le_of_ble_eq_true rfl) ⟨Nat.le_of_ble_eq_true rfl, Nat.le_of_ble_eq_true rfl⟩ ?_
          rintro _ _ (⟨hq7, rfl, rfl⟩ | ⟨hq7, rfl, rfl⟩)
          · skip
            refine r_if_eq (tgt := 48) dX6_takes_41 (by decide) (by omega) (fun hb8 => ?_) (fun hb8 => ?_)
            · skip
              exact absurd hb8 (by omega)
            · skip
              refine r_iconst dX6_takes_44 ?_
              refine r_goto (tgt := 49) dX6_takes_45 (by decide) ?_
              exact r_zret dX6_takes_49 rfl (by first | rfl | decide) (by rw [hP]; exact by unfold TkC tks; first | exact Or.inr ⟨by omega, rfl, rfl⟩ | exact Or.inl ⟨by omega, rfl, by first | rw [if_pos (show 48 ≤ c ∧ c ≤ 57 by omega)] | rw [if_neg (show ¬ (48 ≤ c ∧ c ≤ 57) by omega), if_pos (show c = 44 by omega)] | rw [if_neg (show ¬ (48 ≤ c ∧ c ≤ 57) by omega), if_neg (show ¬ c = 44 by omega)]⟩)
          · skip
            refine r_if_eq (tgt := 48) dX6_takes_41 (by decide) (by omega) (fun hb9 => ?_) (fun hb9 => ?_)
            · skip
              refine r_iconst dX6_takes_48 ?_
              exact r_zret dX6_takes_49 rfl (by first | rfl | decide) (by rw [hP]; exact by unfold TkC tks; first | exact Or.inr ⟨by omega, rfl, rfl⟩ | exact Or.inl ⟨by omega, rfl, by first | rw [if_pos (show 48 ≤ c ∧ c ≤ 57 by omega)] | rw [if_neg (show ¬ (48 ≤ c ∧ c ≤ 57) by omega), if_pos (show c = 44 by omega)] | rw [if_neg (show ¬ (48 ≤ c ∧ c ≤ 57) by omega), if_neg (show ¬ c = 44 by omega)]⟩)
            · skip
              exact absurd hb9 (by omega)
      · skip
        refine r_aload_n dX6_takes_26 rfl rfl ?_
        refine r_callV (tX6_takesComma G σ  (hA)) dX6_takes_27 svX6_takesComma q429 sh15 (ci := 6) rfl rfl rfl ⟨Nat.le_of_ble_eq_true rfl, Nat.le_of_ble_eq_true rfl⟩ (Nat.le_of_ble_eq_true rfl) ⟨Nat.le_of_ble_eq_true rfl, Nat.le_of_ble_eq_true rfl⟩ ?_
        rintro _ _ (⟨hq10, rfl, rfl⟩ | ⟨hq10, rfl, rfl⟩)
        · skip
          exact r_zret dX6_takes_30 rfl (by first | rfl | decide) (by rw [hP]; exact by unfold TkC tks; first | exact Or.inr ⟨by omega, rfl, rfl⟩ | exact Or.inl ⟨by omega, rfl, by first | rw [if_pos (show 48 ≤ c ∧ c ≤ 57 by omega)] | rw [if_neg (show ¬ (48 ≤ c ∧ c ≤ 57) by omega), if_pos (show c = 44 by omega)] | rw [if_neg (show ¬ (48 ≤ c ∧ c ≤ 57) by omega), if_neg (show ¬ c = 44 by omega)]⟩)
        · skip
          exact r_zret dX6_takes_30 rfl (by first | rfl | decide) (by rw [hP]; exact by unfold TkC tks; first | exact Or.inr ⟨by omega, rfl, rfl⟩ | exact Or.inl ⟨by omega, rfl, by first | rw [if_pos (show 48 ≤ c ∧ c ≤ 57 by omega)] | rw [if_neg (show ¬ (48 ≤ c ∧ c ≤ 57) by omega), if_pos (show c = 44 by omega)] | rw [if_neg (show ¬ (48 ≤ c ∧ c ≤ 57) by omega), if_neg (show ¬ c = 44 by omega)]⟩)
    · skip
      exact absurd hb4 (by omega)
set_option maxHeartbeats 1000000 in
set_option maxRecDepth 100000 in
theorem tX6_readToError (G : GT) (σ : Sg)  (hl : 0 ≤ σ 15 0 ∧ σ 15 0 ≤ 60) (hc : ∀ i, 0 ≤ i → i < σ 15 0 → 33 ≤ σ 16 i ∧ σ 16 i ≤ 126) : Ct G mX6_readToError 4 0 0 false (SH Ω) (SH Ω) [Rf G 15] σ (fun rv sv => some (I (erF (σ 17) (σ 16) (σ 15 0).toNat)) = rv ∧ ReadP σ sv) := by
  obtain ⟨P, hP⟩ : ∃ P : Option Value → Sg → Prop, P = (fun rv sv => some (I (erF (σ 17) (σ 16) (σ 15 0).toNat)) = rv ∧ ReadP σ sv) := ⟨_, rfl⟩
  rw [← hP]
  refine ct_of (lv := [(0, Rf G 15)]) (by decide +kernel) (Nat.le_of_ble_eq_true rfl) rfl ?_
  refine r_aload_n dX6_readToError_0 rfl rfl ?_
  refine r_iconst dX6_readToError_1 ?_
  refine r_putI (z := 3) tyX6 dX6_readToError_2 sh15 rfl (ci := 6) (j := 3) rfl (Nat.le_of_ble_eq_true rfl) rfl tyX6_ok nmX6 ixX6 q102 rfl rfl rfl ?_
  refine r_aload_n dX6_readToError_5 rfl rfl ?_
  refine r_iconst dX6_readToError_6 ?_
  refine r_putI (z := 4) tyX6 dX6_readToError_7 sh15 rfl (ci := 6) (j := 4) rfl (Nat.le_of_ble_eq_true rfl) rfl tyX6_ok nmX6 ixX6 q103 rfl rfl rfl ?_
  refine r_aload_n dX6_readToError_10 rfl rfl ?_
  refine r_bipush dX6_readToError_11 rfl ?_
  refine r_putI (z := 5) tyX6 dX6_readToError_13 sh15 rfl (ci := 6) (j := 5) rfl (Nat.le_of_ble_eq_true rfl) rfl tyX6_ok nmX6 ixX6 q104 rfl rfl rfl ?_
  refine r_aload_n dX6_readToError_16 rfl rfl ?_
  refine r_iconst dX6_readToError_17 ?_
  refine r_putI (z := 6) tyX6 dX6_readToError_18 sh15 rfl (ci := 6) (j := 6) rfl (Nat.le_of_ble_eq_true rfl) rfl tyX6_ok nmX6 ixX6 q105 rfl rfl rfl ?_
  refine r_aload_n dX6_readToError_21 rfl rfl ?_
  refine r_iconst dX6_readToError_22 ?_
  refine r_putI (z := 7) tyX6 dX6_readToError_23 sh15 rfl (ci := 6) (j := 7) rfl (Nat.le_of_ble_eq_true rfl) rfl tyX6_ok nmX6 ixX6 q106 rfl rfl rfl ?_
  refine r_iconst dX6_readToError_26 ?_
  refine r_istore_n (lv' := [(0, Rf G 15), (1, I 0)]) dX6_readToError_27 rfl (Nat.le_of_ble_eq_true rfl) rfl ?_
  have L28 : ∀ (mm : Nat) (i : Int) (s : Sg), (61 - i).toNat = mm → (hi : 0 ≤ i ∧ i ≤ σ 15 0) → (sfr : ∀ a, a ≠ 15 → a ≠ 17 → s a = σ a) → (s0 : s 15 0 = σ 15 0) → (hq : rnF (σ 17) (σ 16) i.toNat = some (qs s)) → (hA : AB (qs s)) → Rn G mX6_readToError (rmD 4 0 0) E0 (Zn G false (SH Ω) P 0 0) false (SH Ω) 0 0 28 [(0, Rf G 15), (1, I i)] [] s := by
    intro mm
    induction mm using Nat.strongRecOn with
    | _ mm ih28 =>
    intro i s hm28 hi sfr s0 hq hA
    refine r_iload_n dX6_readToError_28 rfl rfl ?_
    refine r_aload_n dX6_readToError_29 rfl rfl ?_
    refine r_getI (z := 0) dX6_readToError_30 sh15 rfl (ci := 6) (j := 0) rfl (Nat.le_of_ble_eq_true rfl) rfl ixX6 q98 rfl (hv := s0) ?_
    refine r_icmp_ge (tgt := 56) dX6_readToError_33 (by decide) (by omega) (fun hb1 => ?_) (fun hb1 => ?_)
    · skip
      refine r_aload_n dX6_readToError_56 rfl rfl ?_
      refine r_getI (z := 0) dX6_readToError_57 sh15 rfl (ci := 6) (j := 0) rfl (Nat.le_of_ble_eq_true rfl) rfl ixX6 q98 rfl (hv := s0) ?_
      exact r_iret dX6_readToError_60 rfl (by rw [hP]; exact by have he := erF_full hq; rw [show i.toNat = (σ 15 0).toNat by omega] at he hq; exact ⟨by rw [he]; congr 2; omega, sfr, s0, by rw [he, show (((σ 15 0).toNat : Nat) : Int).toNat = (σ 15 0).toNat by omega]; exact hq, hA⟩)
    · skip
      have hcc := hc i hi.1 (by omega)
      refine r_aload_n dX6_readToError_36 rfl rfl ?_
      refine r_aload_n dX6_readToError_37 rfl rfl ?_
      refine r_iload_n dX6_readToError_38 rfl rfl ?_
      refine r_callV (tX6_codeAt G s i (by omega)) dX6_readToError_39 svX6_codeAt q417 sh15 (ci := 6) rfl rfl rfl ⟨Nat.le_of_ble_eq_true rfl, Nat.le_of_ble_eq_true rfl⟩ (Nat.le_of_ble_eq_true rfl) ⟨Nat.le_of_ble_eq_true rfl, Nat.le_of_ble_eq_true rfl⟩ ?_
      rintro _ _ ⟨rfl, rfl⟩
      rw [show s 16 i = σ 16 i from congrFun (sfr 16 (by decide) (by decide)) i]
      refine r_callV (tX6_takes G s (σ 16 i) (hA) (by omega)) dX6_readToError_42 svX6_takes q422 sh15 (ci := 6) rfl rfl rfl ⟨Nat.le_of_ble_eq_true rfl, Nat.le_of_ble_eq_true rfl⟩ (Nat.le_of_ble_eq_true rfl) ⟨Nat.le_of_ble_eq_true rfl, Nat.le_of_ble_eq_true rfl⟩ ?_
      rintro _ _ (⟨hk, rfl, rfl⟩ | ⟨hk, rfl, rfl⟩)
      · skip
        refine r_if_ne (tgt := 50) dX6_readToError_45 (by decide) (by omega) (fun hb2 => ?_) (fun hb2 => ?_)
        · skip
          refine r_iinc (lv' := [(0, Rf G 15), (1, I (i + 1))]) dX6_readToError_50 (Nat.le_of_ble_eq_true rfl) rfl rfl ?_
          refine r_goto (tgt := 28) dX6_readToError_53 (by decide) ?_
          exact ih28 _ (by omega) (i + 1) _ rfl (by omega) (fun a h5 h7 => by rw [tks_ne h5 h7]; exact sfr a h5 h7) (by rw [tks_0, s0]) (by rw [rnF_s hi.1 hq]; exact tks_y hk) (stp_AB hA (tks_y hk))
        · skip
          exact absurd hb2 (by omega)
      · skip
        refine r_if_ne (tgt := 50) dX6_readToError_45 (by decide) (by omega) (fun hb3 => ?_) (fun hb3 => ?_)
        · skip
          exact absurd hb3 (by omega)
        · skip
          refine r_iload_n dX6_readToError_48 rfl rfl ?_
          exact r_iret dX6_readToError_49 rfl (by rw [hP]; exact by have he := erF_stop (f := σ 16) hi.1 hq (tks_n hk) (σ 15 0).toNat (by omega); exact ⟨by rw [he], sfr, s0, by rw [he]; exact hq, hA⟩)
  exact L28 _ 0 _ rfl (by omega) (fun a h5 h7 => by rw [up_ne h5, up_ne h5, up_ne h5, up_ne h5, up_ne h5]) (by rw [up_nj (by decide), up_nj (by decide), up_nj (by decide), up_nj (by decide), up_nj (by decide)]) (by show some (0, 0, 10, 0, 0, σ 17) = _; simp [qs, up]; rw [up_ne (by decide), up_ne (by decide), up_ne (by decide), up_ne (by decide), up_ne (by decide)]) (by simp [AB, qs, up])

theorem erF_bd {g f : Int → Int} : ∀ n : Nat, 0 ≤ erF g f n ∧ erF g f n ≤ n
  | 0 => ⟨Int.le_refl _, Int.le_refl _⟩
  | n + 1 => by
    have := erF_bd (g := g) (f := f) n
    simp only [erF]
    split <;> omega
set_option maxHeartbeats 1000000 in
set_option maxRecDepth 100000 in
theorem tX6_tellsTable (G : GT) (σ : Sg)  (hl : 0 ≤ σ 15 0 ∧ σ 15 0 ≤ 60) (hc : ∀ i, 0 ≤ i → i < σ 15 0 → 33 ≤ σ 16 i ∧ σ 16 i ≤ 126) : Ct G mX6_tellsTable 5 0 0 false (SH Ω) (SH Ω) [Rf G 15] σ (fun rv sv => ReadP σ sv ∧ ((TlC σ sv ∧ some (I 1) = rv) ∨ (¬ TlC σ sv ∧ some (I 0) = rv))) := by
  obtain ⟨P, hP⟩ : ∃ P : Option Value → Sg → Prop, P = (fun rv sv => ReadP σ sv ∧ ((TlC σ sv ∧ some (I 1) = rv) ∨ (¬ TlC σ sv ∧ some (I 0) = rv))) := ⟨_, rfl⟩
  rw [← hP]
  refine ct_of (lv := [(0, Rf G 15)]) (by decide +kernel) (Nat.le_of_ble_eq_true rfl) rfl ?_
  have heb := erF_bd (g := σ 17) (f := σ 16) (σ 15 0).toNat
  refine r_aload_n dX6_tellsTable_0 rfl rfl ?_
  refine r_callV (tX6_readToError G σ  (by omega) (by omega)) dX6_tellsTable_1 svX6_readToError q413 sh15 (ci := 6) rfl rfl rfl ⟨Nat.le_of_ble_eq_true rfl, Nat.le_of_ble_eq_true rfl⟩ (Nat.le_of_ble_eq_true rfl) ⟨Nat.le_of_ble_eq_true rfl, Nat.le_of_ble_eq_true rfl⟩ ?_
  rintro _ s ⟨rfl, hp⟩
  have hA := hp.2.2.2
  have hA0 := hA
  simp only [AB, qs] at hA0
  refine r_aload_n dX6_tellsTable_4 rfl rfl ?_
  refine r_getI (z := 0) dX6_tellsTable_5 sh15 rfl (ci := 6) (j := 0) rfl (Nat.le_of_ble_eq_true rfl) rfl ixX6 q98 rfl (hv := hp.2.1) ?_
  refine r_icmp_ne (tgt := 29) dX6_tellsTable_8 (by decide) (by omega) (fun hb1 => ?_) (fun hb1 => ?_)
  · skip
    refine r_iconst dX6_tellsTable_29 ?_
    exact r_zret dX6_tellsTable_30 rfl (by first | rfl | decide) (by rw [hP]; exact ⟨hp, by unfold TlC; first | exact Or.inl ⟨⟨by omega, by omega, by assumption⟩, rfl⟩ | exact Or.inr ⟨fun q => by rcases q with ⟨q1, q2, q3⟩; first | omega | exact absurd q3 (by assumption), rfl⟩⟩)
  · skip
    refine r_aload_n dX6_tellsTable_11 rfl rfl ?_
    refine r_getI (z := 6) dX6_tellsTable_12 sh15 rfl (ci := 6) (j := 6) rfl (Nat.le_of_ble_eq_true rfl) rfl ixX6 q105 rfl (hv := rfl) ?_
    refine r_if_le (tgt := 29) dX6_tellsTable_15 (by decide) (by omega) (fun hb2 => ?_) (fun hb2 => ?_)
    · skip
      refine r_iconst dX6_tellsTable_29 ?_
      exact r_zret dX6_tellsTable_30 rfl (by first | rfl | decide) (by rw [hP]; exact ⟨hp, by unfold TlC; first | exact Or.inl ⟨⟨by omega, by omega, by assumption⟩, rfl⟩ | exact Or.inr ⟨fun q => by rcases q with ⟨q1, q2, q3⟩; first | omega | exact absurd q3 (by assumption), rfl⟩⟩)
    · skip
      refine r_aload_n dX6_tellsTable_18 rfl rfl ?_
      refine r_callV (tX6_isRowFull G s  (hA)) dX6_tellsTable_19 svX6_isRowFull q435 sh15 (ci := 6) rfl rfl rfl ⟨Nat.le_of_ble_eq_true rfl, Nat.le_of_ble_eq_true rfl⟩ (Nat.le_of_ble_eq_true rfl) ⟨Nat.le_of_ble_eq_true rfl, Nat.le_of_ble_eq_true rfl⟩ ?_
      rintro _ _ ⟨⟨hq3, rfl⟩ | ⟨hq3, rfl⟩, rfl⟩
      · skip
        refine r_if_eq (tgt := 29) dX6_tellsTable_22 (by decide) (by omega) (fun hb4 => ?_) (fun hb4 => ?_)
        · skip
          exact absurd hb4 (by omega)
        · skip
          refine r_iconst dX6_tellsTable_25 ?_
          refine r_goto (tgt := 30) dX6_tellsTable_26 (by decide) ?_
          exact r_zret dX6_tellsTable_30 rfl (by first | rfl | decide) (by rw [hP]; exact ⟨hp, by unfold TlC; first | exact Or.inl ⟨⟨by omega, by omega, by assumption⟩, rfl⟩ | exact Or.inr ⟨fun q => by rcases q with ⟨q1, q2, q3⟩; first | omega | exact absurd q3 (by assumption), rfl⟩⟩)
      · skip
        refine r_if_eq (tgt := 29) dX6_tellsTable_22 (by decide) (by omega) (fun hb5 => ?_) (fun hb5 => ?_)
        · skip
          refine r_iconst dX6_tellsTable_29 ?_
          exact r_zret dX6_tellsTable_30 rfl (by first | rfl | decide) (by rw [hP]; exact ⟨hp, by unfold TlC; first | exact Or.inl ⟨⟨by omega, by omega, by assumption⟩, rfl⟩ | exact Or.inr ⟨fun q => by rcases q with ⟨q1, q2, q3⟩; first | omega | exact absurd q3 (by assumption), rfl⟩⟩)
        · skip
          exact absurd hb5 (by omega)
