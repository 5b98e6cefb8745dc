variable {Ω : List Ob}

theorem thF_l {T : Int → Int} {lvl col : Int} {f : Int → Int} : ∀ h : Nat, 0 ≤ (thF T lvl f col h).2 ∧ (thF T lvl f col h).2 ≤ 2 * h
  | 0 => ⟨Int.le_refl _, Int.le_refl _⟩
  | h + 1 => by
    have := thF_l (T := T) (lvl := lvl) (col := col) (f := f) h
    simp only [thF]
    split
    · simp only []; omega
    · simp only []; omega
theorem plF_l {T : Int → Int} {lvl N : Int} {src : Int → Int} (hN : 0 ≤ N ∧ N ≤ 10) : ∀ k : Nat, 0 ≤ (plF T lvl N src k).2.2 ∧ (plF T lvl N src k).2.2 ≤ 20 * k
  | 0 => ⟨Int.le_refl _, Int.le_refl _⟩
  | k + 1 => by
    have ih := plF_l (T := T) (lvl := lvl) (src := src) hN k
    have hb := plF_bd (T := T) (lvl := lvl) (src := src) hN.1 k
    have ht := thF_l (T := T) (lvl := lvl) (col := src (k : Int)) (f := (plF T lvl N src k).1) (plF T lvl N src k).2.1.toNat
    simp only [plF]
    split
    · simp only []; omega
    · simp only []; omega
theorem lkF_l {T : Int → Int} {R C : Int} (hR : 1 ≤ R ∧ R ≤ 10) (hC : 1 ≤ C ∧ C ≤ 10) : ∀ d : Nat, d ≤ 4 → 0 ≤ lkF T R C d ∧ lkF T R C d ≤ 200 * d
  | 0, _ => ⟨Int.le_refl _, Int.le_refl _⟩
  | d + 1, hd => by
    have ih := lkF_l (T := T) hR hC d (by omega)
    have h1 := (lvF_bd (T := T) hR hC d (by omega)).1
    have hN := rows_bd (R := R) (lvl := (d : Int)) (by omega) hR
    have hp := plF_l (T := T) (lvl := (d : Int)) (src := (lvF T R C d).1) hN (lvF T R C d).2.1.toNat
    show 0 ≤ lkF T R C d + (plF T (d : Int) (R / p2 (d : Int)) (lvF T R C d).1 (lvF T R C d).2.1.toNat).2.2 ∧ lkF T R C d + (plF T (d : Int) (R / p2 (d : Int)) (lvF T R C d).1 (lvF T R C d).2.1.toNat).2.2 ≤ 200 * ((d + 1 : Nat) : Int)
    omega
theorem flF_l {T : Int → Int} {lvl N : Int} {g : Int → Int} {cnt : Nat} {dl : Int} {pl : Int → Int} (hc : cnt ≤ 10) : ∀ k : Nat, 0 ≤ (flF T lvl N g cnt dl pl k).2 ∧ (flF T lvl N g cnt dl pl k).2 ≤ 10 * k
  | 0 => ⟨Int.le_refl _, Int.le_refl _⟩
  | k + 1 => by
    have ih := flF_l (T := T) (lvl := lvl) (N := N) (g := g) (dl := dl) (pl := pl) hc k
    simp only [flF]
    exact ⟨Int.add_nonneg ih.1 (lcF_bd cnt).1, Int.le_trans (Int.add_le_add ih.2 (lcF_bd cnt).2) (by omega)⟩
theorem fiF_l {T : Int → Int} {R C dl : Int} {pl : Int → Int} (hR : 1 ≤ R ∧ R ≤ 10) (hC : 1 ≤ C ∧ C ≤ 10) : ∀ k : Nat, k ≤ 4 → 0 ≤ (fiF T R C dl pl k).2 ∧ (fiF T R C dl pl k).2 ≤ 60 * k
  | 0, _ => ⟨Int.le_refl _, Int.le_refl _⟩
  | k + 1, hk => by
    have ih := fiF_l (T := T) (dl := dl) (pl := pl) hR hC k (by omega)
    have hN := rows_bd (R := R) (lvl := 3 - (k : Int)) (by omega) hR
    have h1 := (lvF_bd (T := T) hR hC (4 - k) (by omega)).1
    have h10 : (lvF T R C (4 - k)).2.1.toNat ≤ 10 := by omega
    simp only [fiF]
    exact ⟨Int.add_nonneg ih.1 (flF_l h10 _).1, Int.le_trans (Int.add_le_add ih.2 (flF_l h10 _).2) (by omega)⟩
theorem LW_bd {T : Int → Int} {R C w : Int} (hR : 1 ≤ R ∧ R ≤ 10) (hC : 1 ≤ C ∧ C ≤ 10) (hw : 0 ≤ w ∧ w ≤ 2) : 0 ≤ LW T R C w ∧ LW T R C w ≤ 10000 := by
  have hm : 0 ≤ C * R ∧ C * R ≤ 100 := by
    have h1 : C * R ≤ 10 * 10 := Int.mul_le_mul hC.2 hR.2 (by omega) (by omega)
    exact ⟨Int.mul_nonneg (by omega) (by omega), h1⟩
  rcases (show w = 0 ∨ w = 1 ∨ w = 2 by omega) with rfl | rfl | rfl
  · rw [LW0]; omega
  · have := LW1_bd (T := T) hR hC; omega
  · have h1 := lkF_l (T := T) hR hC 4 (by omega)
    have h2 := fiF_l (T := T) (dl := C - 1) (pl := fun _ => 0) hR hC 4 (by omega)
    unfold LW
    rw [if_neg (by decide), if_neg (by decide)]
    omega
/-- what a step of the law does: it saves and goes on, or it throws and changes nothing -/
def StepP (A : Ab) (D : Int) (B : Ab) : Prop := (-1 ≤ D ∧ D ≤ 2147483647 ∧ ∃ y, B = svA A y) ∨ (-13 ≤ D ∧ D ≤ -11 ∧ B = A)
def St0 (A : Ab) (o : Op3) : Prop := o.1 = 0 → -1 ≤ o.2.1 ∧ o.2.1 ≤ 2147483647 ∧ ∃ y, o.2.2 = svA A y
theorem st_gen {o : Op3} {A : Ab} {c1 c2 : Int} (hc : (-13 ≤ c1 ∧ c1 ≤ -11) ∧ (-13 ≤ c2 ∧ c2 ≤ -11)) (h0 : St0 A o) (hx : ¬ o.1 = 0 → o.2.2 = A) : StepP A (cvl o c1 c2) o.2.2 := by
  unfold StepP cvl
  by_cases h : o.1 = 0
  · rw [if_pos h]; exact Or.inl (h0 h)
  · rw [if_neg h]
    right
    split
    · exact ⟨hc.1.1, hc.1.2, hx h⟩
    · exact ⟨hc.2.1, hc.2.2, hx h⟩
theorem no1 {P : Prop} (h : (1 : Int) = 0) : P := absurd h (by decide)
theorem no2 {P : Prop} (h : (2 : Int) = 0) : P := absurd h (by decide)
theorem st_size {A : Ab} {r c : Int} (hO : OkS A.1) : St0 A (oSize A r c) := by
  have h1 := hO.1
  have h2 := hO.2.1
  unfold oSize St0
  split
  · exact fun _ => ⟨by show -1 ≤ 11 * A.1.1 + A.1.2.1; omega, by show 11 * A.1.1 + A.1.2.1 ≤ _; omega, _, rfl⟩
  · exact fun h => no1 h
theorem st_put {A : Ab} {r c v : Int} (hO : OkS A.1) : St0 A (oPut A r c v) := by
  have h1 := hO.2.2.2.1 (10 * r + c)
  unfold oPut St0
  split
  · split
    · exact fun _ => ⟨by show -1 ≤ nT A.1 (10 * r + c); omega, by show nT A.1 (10 * r + c) ≤ _; omega, _, rfl⟩
    · exact fun h => no2 h
  · exact fun h => no1 h
theorem st_points {A : Ab} {a b c d : Int} : St0 A (oPoints A a b c d) := by
  unfold oPoints St0
  split
  · refine fun _ => ⟨?_, ?_, _, rfl⟩
    · show -1 ≤ (if _ then (1 : Int) else 0)
      split <;> omega
    · show (if _ then (1 : Int) else 0) ≤ 2147483647
      split <;> omega
  · exact fun h => no1 h
theorem st_find {A : Ab} {w : Int} (hO : OkS A.1) : St0 A (oFind A w) := by
  unfold oFind St0
  split
  · next hw =>
    have h1 := LW_bd (T := nT A.1) hO.1 hO.2.1 hw
    split
    · exact fun _ => ⟨by show -1 ≤ LW (nT A.1) A.1.1 A.1.2.1 w; omega, by show LW (nT A.1) A.1.1 A.1.2.1 w ≤ _; omega, _, rfl⟩
    · exact fun h => no2 h
  · exact fun h => no1 h
theorem st_weigh {A : Ab} {v : Int} (hO : OkS A.1) : St0 A (oWeigh A v) := by
  have h1 := hO.2.2.1
  unfold oWeigh St0
  split
  · split
    · exact fun h => no2 h
    · exact fun _ => ⟨by show -1 ≤ A.1.2.2.1 + 1; omega, by show A.1.2.2.1 + 1 ≤ _; omega, _, rfl⟩
  · exact fun h => no1 h
theorem st_unweigh {A : Ab} (hO : OkS A.1) : St0 A (oUnweigh A) := by
  have h1 := hO.2.2.1
  have h2 := hO.2.2.2.2.2.1 (A.1.2.2.1 - 1) (by omega) (by omega)
  unfold oUnweigh St0
  split
  · exact fun h => no1 h
  · exact fun _ => ⟨by show -1 ≤ nW A.1 (A.1.2.2.1 - 1); omega, by show nW A.1 (A.1.2.2.1 - 1) ≤ _; omega, _, rfl⟩
theorem st_bk {A : Ab} {o : Option St} (h : ∀ x, o = some x → OkS x) : St0 A (bkA A o) := by
  cases o with
  | none => exact fun h => no2 h
  | some x =>
    have h1 := (h x rfl).1
    exact fun _ => ⟨by show -1 ≤ x.1; omega, by show x.1 ≤ _; omega, _, rfl⟩
theorem st_back {A : Ab} {s : Int} (hA : OkA A) : St0 A (oBack A s) := by
  unfold oBack
  split
  · exact st_bk hA.2.2.1
  · split
    · exact st_bk hA.2.2.2.1
    · exact fun h => no1 h
theorem oMend_is {A : Ab} : oMend A = (0, (oMend A).2.1, (oMend A).2.2) := by
  unfold oMend
  repeat' split
  all_goals rfl
theorem st_mend {A : Ab} (hO : OkS A.1) : StepP A (oMend A).2.1 (oMend A).2.2 := by
  have h1 := hO.1
  left
  unfold oMend
  split
  · exact ⟨by show (-1 : Int) ≤ -1; omega, by show (-1 : Int) ≤ _; omega, _, rfl⟩
  · next hn =>
    split
    · exact ⟨by show (-1 : Int) ≤ -1; omega, by show (-1 : Int) ≤ _; omega, _, rfl⟩
    · have h2 : 0 ≤ wF A.1 ∧ wF A.1 < ((100 * (A.1.1 - 1)).toNat : Nat) := by
        rcases wfst_bd (C := A.1.2.1) (T := nT A.1) (100 * (A.1.1 - 1)).toNat with h | h
        · exact absurd h hn
        · exact ⟨h.1, h.2.1⟩
      exact ⟨by show -1 ≤ wF A.1 / 100; omega, by show wF A.1 / 100 ≤ _; omega, _, rfl⟩
/-- saved states: a piece of all states that there were -/
def hs (u : Nat → St) (a n : Nat) : List St := (List.range n).map (fun r => u (a + r))
theorem hs_len {u : Nat → St} {a n : Nat} : (hs u a n).length = n := by simp [hs]
theorem hs_s {u : Nat → St} {a n : Nat} : hs u a (n + 1) = hs u a n ++ [u (a + n)] := by
  unfold hs
  rw [List.range_succ, List.map_append]
  rfl
theorem hs_c {u v : Nat → St} {a n : Nat} (h : ∀ r, r < n → u (a + r) = v (a + r)) : hs u a n = hs v a n := by
  unfold hs
  exact List.map_congr_left (fun r hr => h r (List.mem_range.mp hr))
theorem hs_push {u : Nat → St} {a n : Nat} (hn : n ≤ 6) : ∃ a' n', pushH (hs u a n) (u (a + n)) = hs u a' n' ∧ a' + n' = a + n + 1 ∧ n' ≤ 6 := by
  by_cases h : n = 6
  · subst h
    refine ⟨a + 1, 6, ?_, by omega, by omega⟩
    unfold pushH
    rw [hs_len, if_pos rfl]
    rfl
  · refine ⟨a, n + 1, ?_, by omega, by omega⟩
    unfold pushH
    rw [hs_len, if_neg h, hs_s]
theorem hs_last {u : Nat → St} {a n : Nat} {d : St} : (hs u a (n + 1)).getLastD d = u (a + n) ∧ (hs u a (n + 1)).dropLast = hs u a n := by
  rw [hs_s]
  exact ⟨List.getLastD_concat, List.dropLast_concat⟩
theorem push_inv {u : Nat → St} {a n : Nat} {q : Option St × Option St × List Int} (hn : n ≤ 6) (y : St) : ∃ u' a' n', svA (u (a + n), hs u a n, q) y = (u' (a' + n'), hs u' a' n', q) ∧ a' + n' = a + n + 1 ∧ n' ≤ 6 ∧ ∀ j, j ≤ a + n → u' j = u j := by
  obtain ⟨a', n', h1, h2, h3⟩ := hs_push (u := u) (a := a) hn
  refine ⟨fun j => if j = a + n + 1 then y else u j, a', n', ?_, h2, h3, fun j hj => if_neg (by omega)⟩
  show (y, pushH (hs u a n) (u (a + n)), q) = _
  rw [h1, h2, hs_c (u := u) (v := fun j => if j = a + n + 1 then y else u j) (fun r hr => (if_neg (by omega)).symm)]
  show (y, _, q) = ((if a + n + 1 = a + n + 1 then y else u (a + n + 1)), _, q)
  rw [if_pos rfl]
theorem oUndo_hs {u : Nat → St} {a n : Nat} {x : St} {q : Option St × Option St × List Int} : oUndo (x, hs u a (n + 1), q) = (0, (n : Int), (u (a + n), hs u a n, q)) := by
  have h := hs_last (u := u) (a := a) (n := n) (d := x)
  unfold oUndo
  rw [if_neg (by show ¬ hs u a (n + 1) = []; rw [hs_s]; simp)]
  show (0, ((hs u a (n + 1)).length : Int) - 1, ((hs u a (n + 1)).getLastD x, (hs u a (n + 1)).dropLast, q)) = _
  rw [h.1, h.2, hs_len]
  congr 2
  omega
theorem oUndo_y {A : Ab} {r : Nat} (h : A.2.1.length = r + 1) : oUndo A = (0, (r : Int), (A.2.1.getLastD A.1, A.2.1.dropLast, A.2.2)) := by
  unfold oUndo
  rw [if_neg (by intro e; rw [e] at h; simp at h), h]
  congr 2
  omega
/-- the law's own row of numbers is no part of the object -/
theorem CI_46 {σ : Sg} {i v : Int} (h : CI σ) : CI (up σ 46 i v) ∧ absC (up σ 46 i v) = absC σ := by
  have e : ∀ a, a ≠ 46 → up σ 46 i v a = σ a := fun a ha => up_ne ha
  have hx : absC (up σ 46 i v) = absC σ := by
    unfold absC
    rw [hiC_c (fun a h1 h2 => e a (by omega)), slC_c (e 38 (by decide)) (e 39 (by decide)) (e 40 (by decide)) (e 41 (by decide)), slC_c (e 42 (by decide)) (e 43 (by decide)) (e 44 (by decide)) (e 45 (by decide)), e 16 (by decide), e 15 (by decide), stC_c (e 1 (by decide)) (e 2 (by decide)) (e 3 (by decide))]
  obtain ⟨a1, a2, a3, a4, a5, a6⟩ := h
  refine ⟨⟨?_, ?_, ?_, ?_, ?_, ?_⟩, hx⟩
  · unfold ScC; rw [e 6 (by decide), e 11 (by decide), e 13 (by decide)]; exact a1
  · unfold HistOK; rw [e 18 (by decide)]; exact a2
  · rw [e 15 (by decide)]; exact a3
  · rw [e 38 (by decide), e 42 (by decide)]; exact a4
  · rw [e 2 (by decide)]; exact a5
  · rw [hx]; exact a6
/-- the start of the law's run -/
def al_1 : Ab := (oPoints A00 3 1 3 1).2.2
def al_2 : Ab := (oPut al_1 2 1 40).2.2
def al_3 : Ab := (oWeigh al_2 7).2.2
def al_4 : Ab := (oFind al_3 0).2.2
def al_5 : Ab := (oKeep al_4 1).2.2
theorem al_len : al_5.2.1.length = 4 := by decide +kernel
theorem al_buf : al_5.2.2.2.2 = [] := by decide +kernel
theorem al_slot : al_5.2.2.2.1 = some al_5.1 := rfl
theorem al_rows : al_5.1.1 = 4 := by decide +kernel
def u0 (j : Nat) : St := if j < 4 then al_5.2.1.getD j al_5.1 else al_5.1
theorem hs_four {l : List St} {y : St} (h : l.length = 4) : hs (fun j => if j < 4 then l.getD j y else y) 0 4 = l := by
  match l, h with
  | [p, q, r, s], _ => rfl
theorem u0_hs : hs u0 0 4 = al_5.2.1 := hs_four al_len

