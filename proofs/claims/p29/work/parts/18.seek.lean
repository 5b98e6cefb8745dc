variable {Ω : List Ob}

/-- the columns that the levels leave: the list, how many, the looks of the level -/
def lvF (T : Int → Int) (R C : Int) : Nat → (Int → Int) × Int × Int
  | 0 => (fun j => j, C, 0)
  | d + 1 => plF T (d : Int) (R / p2 (d : Int)) (lvF T R C d).1 (lvF T R C d).2.1.toNat
def lkF (T : Int → Int) (R C : Int) : Nat → Int
  | 0 => 0
  | d + 1 => lkF T R C d + (lvF T R C (d + 1)).2.2
/-- the places, from the level 3 down, after k levels -/
def fiF (T : Int → Int) (R C dl : Int) (pl : Int → Int) : Nat → (Int → Int) × Int
  | 0 => (pl, 0)
  | k + 1 => ((flF T (3 - (k : Int)) (R / p2 (3 - (k : Int))) (lvF T R C (4 - k)).1 (lvF T R C (4 - k)).2.1.toNat dl (fiF T R C dl pl k).1 ((R / p2 (3 - (k : Int)) + 1) / 2).toNat).1,
     (fiF T R C dl pl k).2 + (flF T (3 - (k : Int)) (R / p2 (3 - (k : Int))) (lvF T R C (4 - k)).1 (lvF T R C (4 - k)).2.1.toNat dl (fiF T R C dl pl k).1 ((R / p2 (3 - (k : Int)) + 1) / 2).toNat).2)
theorem lvF_bd {T : Int → Int} {R C : Int} (hR : 1 ≤ R ∧ R ≤ 10) (hC : 1 ≤ C ∧ C ≤ 10) : ∀ d : Nat, d ≤ 4 → (0 ≤ (lvF T R C d).2.1 ∧ (lvF T R C d).2.1 ≤ 10) ∧ ∀ j : Int, 0 ≤ j → j < (lvF T R C d).2.1 → 0 ≤ (lvF T R C d).1 j ∧ (lvF T R C d).1 j < C
  | 0, _ => ⟨⟨by show 0 ≤ C; omega, by show C ≤ 10; omega⟩, fun j a b => by
      have b : j < C := b
      exact ⟨a, b⟩⟩
  | d + 1, hd => by
    obtain ⟨h1, h2⟩ := lvF_bd hR hC d (by omega)
    have hN := rows_bd (R := R) (lvl := (d : Int)) (by omega) hR
    have hb := plF_bd (T := T) (lvl := (d : Int)) (N := R / p2 (d : Int)) (src := (lvF T R C d).1) hN.1 (lvF T R C d).2.1.toNat
    refine ⟨⟨hb.1, Int.le_trans hb.2 hN.2⟩, fun j a b => ?_⟩
    obtain ⟨i, z1, z2, z3⟩ := plF_mem (T := T) (lvl := (d : Int)) (N := R / p2 (d : Int)) (src := (lvF T R C d).1) (lvF T R C d).2.1.toNat j a b
    show 0 ≤ (plF T (d : Int) (R / p2 (d : Int)) (lvF T R C d).1 (lvF T R C d).2.1.toNat).1 j ∧ (plF T (d : Int) (R / p2 (d : Int)) (lvF T R C d).1 (lvF T R C d).2.1.toNat).1 j < C
    rw [z3]
    exact h2 i z1 (by omega)
theorem flF_out {T : Int → Int} {lvl N R : Int} {g : Int → Int} {cnt : Nat} {dl : Int} {pl : Int → Int} (hl : 0 ≤ lvl ∧ lvl ≤ 3) (hR : 1 ≤ R ∧ R ≤ 10) (hN : N = R / p2 lvl) : ∀ (k : Nat), 2 * (k : Int) ≤ N + 1 → ∀ r : Int, (r < 0 ∨ R ≤ r) → (flF T lvl N g cnt dl pl k).1 r = pl r
  | 0, _, _, _ => rfl
  | k + 1, hk, r, hr => by
    have ih := flF_out (T := T) (g := g) (cnt := cnt) (dl := dl) (pl := pl) hl hR hN k (by omega) r hr
    have h1 := rows_ok (R := R) (lvl := lvl) (h := 2 * (k : Int) + 1) hl hR (by omega) (by rw [← hN]; omega)
    simp only [flF]
    rw [if_neg (by omega)]
    exact ih
/-- what stood in the places before matters nowhere -/
theorem flF_ind {T : Int → Int} {lvl N R p : Int} {g : Int → Int} {cnt : Nat} {dl : Int} {q q' : Int → Int} (hR : 1 ≤ R ∧ R ≤ 10) (hp : p2 lvl = p) (hp4 : p = 1 ∨ p = 2 ∨ p = 4 ∨ p = 8) (hN : N = R / p)
    (hq : ∀ r : Int, 0 ≤ r → r < R → (r + 1) % (2 * p) = 0 → q r = q' r) : ∀ i : Nat, 2 * (i : Int) ≤ N + 1 →
      (∀ r : Int, 0 ≤ r → r < R → ((r + 1) % (2 * p) = 0 ∨ ∃ j : Int, 0 ≤ j ∧ j < i ∧ r = (2 * j + 1) * p - 1) → (flF T lvl N g cnt dl q i).1 r = (flF T lvl N g cnt dl q' i).1 r) ∧ (flF T lvl N g cnt dl q i).2 = (flF T lvl N g cnt dl q' i).2
  | 0, _ => ⟨fun r a b c => by
      rcases c with c | ⟨j, c1, c2, c3⟩
      · exact hq r a b c
      · omega, rfl⟩
  | i + 1, hi => by
    obtain ⟨h1, h2⟩ := flF_ind (T := T) (g := g) (cnt := cnt) (dl := dl) hR hp hp4 hN hq i (by omega)
    have hf : (if 2 * (i : Int) = 0 then 0 else (flF T lvl N g cnt dl q i).1 (2 * (i : Int) * p2 lvl - 1)) = (if 2 * (i : Int) = 0 then 0 else (flF T lvl N g cnt dl q' i).1 (2 * (i : Int) * p2 lvl - 1)) := by
      by_cases e : 2 * (i : Int) = 0
      · rw [if_pos e, if_pos e]
      · rw [if_neg e, if_neg e, hp]
        subst hN
        rcases hp4 with rfl | rfl | rfl | rfl <;> exact h1 _ (by omega) (by omega) (Or.inl (by omega))
    have hl : (if 2 * (i : Int) + 1 < N then (flF T lvl N g cnt dl q i).1 ((2 * (i : Int) + 2) * p2 lvl - 1) else dl) = (if 2 * (i : Int) + 1 < N then (flF T lvl N g cnt dl q' i).1 ((2 * (i : Int) + 2) * p2 lvl - 1) else dl) := by
      by_cases e : 2 * (i : Int) + 1 < N
      · rw [if_pos e, if_pos e, hp]
        subst hN
        rcases hp4 with rfl | rfl | rfl | rfl <;> exact h1 _ (by omega) (by omega) (Or.inl (by omega))
      · rw [if_neg e, if_neg e]
    simp only [flF]
    rw [hf, hl, h2]
    refine ⟨fun r a b c => ?_, rfl⟩
    by_cases e : r = (2 * (i : Int) + 1) * p2 lvl - 1
    · rw [if_pos e, if_pos e]
    · rw [if_neg e, if_neg e]
      apply h1 r a b
      rcases c with c | ⟨j, c1, c2, c3⟩
      · exact Or.inl c
      · right
        refine ⟨j, c1, ?_, c3⟩
        by_cases z : j = i
        · rw [z, ← hp] at c3; exact absurd c3 e
        · omega
theorem fiF_ind {T : Int → Int} {R C dl : Int} {q q' : Int → Int} (hR : 1 ≤ R ∧ R ≤ 10) : ∀ k : Nat, k ≤ 4 → (∀ r : Int, 0 ≤ r → r < R → (r + 1) % (p2 (4 - (k : Int))) = 0 → (fiF T R C dl q k).1 r = (fiF T R C dl q' k).1 r) ∧ (fiF T R C dl q k).2 = (fiF T R C dl q' k).2
  | 0, _ => ⟨fun r a b c => by
      rw [show (4 - ((0 : Nat) : Int)) = 4 by omega, p2_4] at c
      omega, rfl⟩
  | k + 1, hk => by
    obtain ⟨h1, h2⟩ := fiF_ind (T := T) (C := C) (dl := dl) (q := q) (q' := q') hR k (by omega)
    have hy : (k : Int) = 0 ∨ (k : Int) = 1 ∨ (k : Int) = 2 ∨ (k : Int) = 3 := by omega
    have hb := rows_bd (R := R) (lvl := 3 - (k : Int)) (by omega) hR
    have key : ∀ p : Int, p2 (3 - (k : Int)) = p → (p = 1 ∨ p = 2 ∨ p = 4 ∨ p = 8) → p2 (4 - (k : Int)) = 2 * p → _ := fun p e1 e2 e3 =>
      flF_ind (T := T) (lvl := 3 - (k : Int)) (N := R / p2 (3 - (k : Int))) (R := R) (p := p) (g := (lvF T R C (4 - k)).1) (cnt := (lvF T R C (4 - k)).2.1.toNat) (dl := dl) (q := (fiF T R C dl q k).1) (q' := (fiF T R C dl q' k).1) hR e1 e2 (by rw [e1])
        (fun r a b c => h1 r a b (by rw [e3]; exact c)) ((R / p2 (3 - (k : Int)) + 1) / 2).toNat (by omega)
    simp only [fiF]
    rcases hy with hy | hy | hy | hy
    · obtain ⟨g1, g2⟩ := key 8 (by rw [hy]; rfl) (by omega) (by rw [hy]; rfl)
      rw [g2, h2]
      refine ⟨fun r a b c => g1 r a b ?_, rfl⟩
      rw [show (4 - ((k + 1 : Nat) : Int)) = 3 by omega, p2_3] at c
      rw [hy, show (3 - 0 : Int) = 3 by omega, p2_3]
      by_cases z : (r + 1) % 16 = 0
      · exact Or.inl z
      · exact Or.inr ⟨((r + 1) / 8 - 1) / 2, by omega, by omega, by omega⟩
    · obtain ⟨g1, g2⟩ := key 4 (by rw [hy]; rfl) (by omega) (by rw [hy]; rfl)
      rw [g2, h2]
      refine ⟨fun r a b c => g1 r a b ?_, rfl⟩
      rw [show (4 - ((k + 1 : Nat) : Int)) = 2 by omega, p2_2] at c
      rw [hy, show (3 - 1 : Int) = 2 by omega, p2_2]
      by_cases z : (r + 1) % 8 = 0
      · exact Or.inl z
      · exact Or.inr ⟨((r + 1) / 4 - 1) / 2, by omega, by omega, by omega⟩
    · obtain ⟨g1, g2⟩ := key 2 (by rw [hy]; rfl) (by omega) (by rw [hy]; rfl)
      rw [g2, h2]
      refine ⟨fun r a b c => g1 r a b ?_, rfl⟩
      rw [show (4 - ((k + 1 : Nat) : Int)) = 1 by omega, p2_1] at c
      rw [hy, show (3 - 2 : Int) = 1 by omega, p2_1]
      by_cases z : (r + 1) % 4 = 0
      · exact Or.inl z
      · exact Or.inr ⟨((r + 1) / 2 - 1) / 2, by omega, by omega, by omega⟩
    · obtain ⟨g1, g2⟩ := key 1 (by rw [hy]; rfl) (by omega) (by rw [hy]; rfl)
      rw [g2, h2]
      refine ⟨fun r a b c => g1 r a b ?_, rfl⟩
      rw [hy, show (3 - 3 : Int) = 0 by omega, p2_0]
      by_cases z : (r + 1) % 2 = 0
      · exact Or.inl z
      · exact Or.inr ⟨r / 2, by omega, by omega, by omega⟩
/-- the place of a row, and the looks, by a way -/
def PW (T : Int → Int) (R C w r : Int) : Int := if w = 0 then lsI T r 0 (C - 1) else if w = 1 then hvP T 10 0 (R - 1) 0 (C - 1) r else (fiF T R C (C - 1) (fun _ => 0) 4).1 r
def LW (T : Int → Int) (R C w : Int) : Int := if w = 0 then C * R else if w = 1 then hvL T 10 0 (R - 1) 0 (C - 1) else lkF T R C 4 + (fiF T R C (C - 1) (fun _ => 0) 4).2
def SeekP (σ sv : Sg) (w : Int) : Prop :=
  (∀ a, a ≠ 5 → a ≠ 6 → a ≠ 7 → a ≠ 8 → a ≠ 9 → sv a = σ a) ∧ (∀ x, -1 ≤ sv 6 x ∧ sv 6 x ≤ 9) ∧ sv 7 w = LW (σ 2) (σ 1 0) (σ 1 1) w ∧ (∀ x, x ≠ w → sv 7 x = σ 7 x) ∧ (∀ r, 0 ≤ r → r < σ 1 0 → sv 6 (10 * w + r) = PW (σ 2) (σ 1 0) (σ 1 1) w r) ∧ (∀ x, (x < 10 * w ∨ 10 * w + 10 ≤ x) → sv 6 x = σ 6 x)
theorem hvP_bd {T : Int → Int} : ∀ (f : Nat) (a b p q r : Int), 0 ≤ p → p ≤ q → 0 ≤ a → a ≤ r → r ≤ b → b - a + 1 ≤ f → p ≤ hvP T f a b p q r ∧ hvP T f a b p q r ≤ q
  | 0, a, b, p, q, r, _, _, _, _, _, h => by omega
  | f + 1, a, b, p, q, r, hp, hpq, ha, h1, h2, h => by
    have hb := lsI_bd (T := T) (row := (a + b) / 2) hp hpq
    simp only [hvP]
    by_cases c1 : r = (a + b) / 2
    · rw [if_pos c1]; exact hb
    · rw [if_neg c1]
      by_cases c2 : r < (a + b) / 2
      · rw [if_pos c2]
        have := hvP_bd (T := T) f a ((a + b) / 2 - 1) p (lsI T ((a + b) / 2) p q) r hp hb.1 ha h1 (by omega) (by omega)
        omega
      · rw [if_neg c2]
        have := hvP_bd (T := T) f ((a + b) / 2 + 1) b (lsI T ((a + b) / 2) p q) q r (by omega) hb.2 (by omega) (by omega) h2 (by omega)
        omega

set_option maxHeartbeats 1000000 in
set_option maxRecDepth 100000 in
theorem tX1_seek0 (G : GT) (σ : Sg)  (hR : 1 ≤ σ 1 0 ∧ σ 1 0 ≤ 10) (hC : 1 ≤ σ 1 1 ∧ σ 1 1 ≤ 10) (hT : ∀ i, 0 ≤ σ 2 i ∧ σ 2 i ≤ 9999) (hp6 : ∀ x, -1 ≤ σ 6 x ∧ σ 6 x ≤ 9) : Ct G mX1_seek 15 0 0 false (SH Ω) (SH Ω) [Rf G 5, I 0] σ (fun rv sv => none = rv ∧ SeekP σ sv 0) := by
  obtain ⟨P, hP⟩ : ∃ P : Option Value → Sg → Prop, P = (fun rv sv => none = rv ∧ SeekP σ sv 0) := ⟨_, rfl⟩
  rw [← hP]
  refine ct_of (lv := [(0, Rf G 5), (1, I 0)]) (by decide +kernel) (Nat.le_of_ble_eq_true rfl) rfl ?_
  refine r_aload_n dX1_seek_0 rfl rfl ?_
  refine r_iload_n dX1_seek_1 rfl rfl ?_
  refine r_putI (z := 5) tyX1 dX1_seek_2 sh5 rfl (ci := 1) (j := 5) rfl (Nat.le_of_ble_eq_true rfl) rfl tyX1_ok nmX1 ixX1 q79 rfl rfl rfl ?_
  refine r_aload_n dX1_seek_5 rfl rfl ?_
  refine r_iconst dX1_seek_6 ?_
  refine r_putI (z := 6) tyX1 dX1_seek_7 sh5 rfl (ci := 1) (j := 6) rfl (Nat.le_of_ble_eq_true rfl) rfl tyX1_ok nmX1 ixX1 q80 rfl rfl rfl ?_
  refine r_aload_n dX1_seek_10 rfl rfl ?_
  refine r_callV (tX1_leaveAllColumns G (up (up σ 5 5 0) 5 6 0)  (by rw [up_ne (by decide), up_ne (by decide)]; exact hC)) dX1_seek_11 svX1_leaveAllColumns q266 sh5 (ci := 1) rfl rfl rfl ⟨Nat.le_of_ble_eq_true rfl, Nat.le_of_ble_eq_true rfl⟩ (Nat.le_of_ble_eq_true rfl) ⟨Nat.le_of_ble_eq_true rfl, Nat.le_of_ble_eq_true rfl⟩ ?_
  rintro _ _ ⟨rfl, rfl⟩
  obtain ⟨s, hS⟩ : ∃ s, s = up (ov (up (up σ 5 5 0) 5 6 0) 8 0 ((up (up σ 5 5 0) 5 6 0) 1 1) (fun j => j)) 9 0 ((up (up σ 5 5 0) 5 6 0) 1 1) := ⟨_, rfl⟩
  rw [← hS]
  have s5 : s 5 5 = 0 := by rw [hS, up_ne (by decide), ov_ne (by decide), up_nj (by decide), up_eq]
  have s6 : s 5 6 = 0 := by rw [hS, up_ne (by decide), ov_ne (by decide), up_eq]
  have e1 : s 1 = σ 1 := by rw [hS, up_ne (by decide), ov_ne (by decide), up_ne (by decide), up_ne (by decide)]
  have e2 : s 2 = σ 2 := by rw [hS, up_ne (by decide), ov_ne (by decide), up_ne (by decide), up_ne (by decide)]
  have e6 : s 6 = σ 6 := by rw [hS, up_ne (by decide), ov_ne (by decide), up_ne (by decide), up_ne (by decide)]
  have e7 : s 7 = σ 7 := by rw [hS, up_ne (by decide), ov_ne (by decide), up_ne (by decide), up_ne (by decide)]
  have esid : ∀ j, 0 ≤ j → j < s 1 1 → s 8 (10 * 0 + j) = j := by intro j a b; rw [e1] at b; rw [hS, up_ne (by decide), ov_at, up_ne (by decide), up_ne (by decide), if_pos (by omega)]; omega
  have ecn : s 9 0 = s 1 1 := by rw [e1, hS, up_eq, up_ne (by decide), up_ne (by decide)]
  have efr : ∀ a, a ≠ 5 → a ≠ 8 → a ≠ 9 → s a = σ a := fun a h5 h8 h9 => by rw [hS, up_ne h9, ov_ne h8, up_ne h5, up_ne h5]
  refine r_aload_n dX1_seek_14 rfl rfl ?_
  refine r_getI (z := 5) dX1_seek_15 sh5 rfl (ci := 1) (j := 5) rfl (Nat.le_of_ble_eq_true rfl) rfl ixX1 q79 rfl (hv := s5) ?_
  refine r_iconst dX1_seek_18 ?_
  refine r_icmp_ne (tgt := 50) dX1_seek_19 (by decide) (by omega) (fun hb1 => ?_) (fun hb1 => ?_)
  · skip
    refine r_aload_n dX1_seek_50 rfl rfl ?_
    refine r_getI (z := 5) dX1_seek_51 sh5 rfl (ci := 1) (j := 5) rfl (Nat.le_of_ble_eq_true rfl) rfl ixX1 q79 rfl (hv := s5) ?_
    refine r_iconst dX1_seek_54 ?_
    refine r_icmp_ne (tgt := 96) dX1_seek_55 (by decide) (by omega) (fun hb2 => ?_) (fun hb2 => ?_)
    · skip
      refine r_aload_n dX1_seek_96 rfl rfl ?_
      refine r_callV (tX1_lookAtAll G s  (by rw [e1]; exact hR) (by rw [e1]; exact hC) (by rw [e2]; exact hT) (esid) (ecn) (by rw [s5]; omega)) dX1_seek_97 svX1_lookAtAll q309 sh5 (ci := 1) rfl rfl rfl ⟨Nat.le_of_ble_eq_true rfl, Nat.le_of_ble_eq_true rfl⟩ (Nat.le_of_ble_eq_true rfl) ⟨Nat.le_of_ble_eq_true rfl, Nat.le_of_ble_eq_true rfl⟩ ?_
      rintro _ _ ⟨rfl, rfl⟩
      obtain ⟨t, hT9⟩ : ∃ t, t = up (ov s 6 (10 * s 5 5) (10 * s 5 5 + s 1 0) (fun j => lsI (s 2) (j - 10 * s 5 5) 0 (s 1 1 - 1))) 5 6 (s 5 6 + s 1 1 * s 1 0) := ⟨_, rfl⟩
      rw [← hT9]
      simp only [e1, e2, s5, s6] at hT9
      have t5 : t 5 5 = 0 := by rw [hT9, up_nj (by decide), ov_ne (by decide), s5]
      have t6 : t 5 6 = LW (σ 2) (σ 1 0) (σ 1 1) 0 := by rw [hT9, up_eq]; unfold LW; rw [if_pos rfl, Int.zero_add]
      have g7 : t 7 = σ 7 := by rw [hT9, up_ne (by decide), ov_ne (by decide), e7]
      refine r_aload_n dX1_seek_100 rfl rfl ?_
      refine r_getR (b := 7) dX1_seek_101 sh5 rfl (ci := 1) (j := 2) rfl (Nat.le_of_ble_eq_true rfl) ixX1 q76 rfl ?_
      refine r_aload_n dX1_seek_104 rfl rfl ?_
      refine r_getI (z := 5) dX1_seek_105 sh5 rfl (ci := 1) (j := 5) rfl (Nat.le_of_ble_eq_true rfl) rfl ixX1 q79 rfl (hv := t5) ?_
      refine r_aload_n dX1_seek_108 rfl rfl ?_
      refine r_getI (z := 6) dX1_seek_109 sh5 rfl (ci := 1) (j := 6) rfl (Nat.le_of_ble_eq_true rfl) rfl ixX1 q80 rfl (hv := t6) ?_
      refine r_callSN (tX7_setIn G t 7 0 (LW (σ 2) (σ 1 0) (σ 1 1) 0) 3 (sh7) (by omega)) dX1_seek_112 svX7_setIn nw5 rfl ⟨Nat.le_of_ble_eq_true rfl, Nat.le_of_ble_eq_true rfl⟩ (Nat.le_of_ble_eq_true rfl) ⟨Nat.le_of_ble_eq_true rfl, Nat.le_of_ble_eq_true rfl⟩ ?_
      rintro _ _ ⟨rfl, rfl⟩
      exact r_vret dX1_seek_115 rfl (by rw [hP]; exact ⟨rfl, fun a h5 h6 h7 h8 h9 => by rw [up_ne h7, hT9, up_ne h5, ov_ne h6]; exact efr a h5 h8 h9, fun x => by
  rw [up_ne (by decide), hT9, up_ne (by decide), ov_at]
  split
  · have := lsI_bd (T := σ 2) (row := x - 10 * 0) (p := 0) (q := σ 1 1 - 1) (by omega) (by omega); omega
  · rw [e6]; exact hp6 x, up_eq, fun x hx => by rw [up_nj hx, g7], fun r a b => by
  rw [up_ne (by decide), hT9, up_ne (by decide), ov_at, if_pos (by omega)]
  unfold PW; rw [if_pos rfl]; congr 1; omega, fun x hx => by
  rw [up_ne (by decide), hT9, up_ne (by decide), ov_at, if_neg (by omega), e6]⟩)
    · skip
      exact absurd hb2 (by omega)
  · skip
    exact absurd hb1 (by omega)
set_option maxHeartbeats 1000000 in
set_option maxRecDepth 100000 in
theorem tX1_seek1 (G : GT) (σ : Sg)  (hR : 1 ≤ σ 1 0 ∧ σ 1 0 ≤ 10) (hC : 1 ≤ σ 1 1 ∧ σ 1 1 ≤ 10) (hT : ∀ i, 0 ≤ σ 2 i ∧ σ 2 i ≤ 9999) (hp6 : ∀ x, -1 ≤ σ 6 x ∧ σ 6 x ≤ 9) : Ct G mX1_seek 15 0 0 false (SH Ω) (SH Ω) [Rf G 5, I 1] σ (fun rv sv => none = rv ∧ SeekP σ sv 1) := by
  obtain ⟨P, hP⟩ : ∃ P : Option Value → Sg → Prop, P = (fun rv sv => none = rv ∧ SeekP σ sv 1) := ⟨_, rfl⟩
  rw [← hP]
  refine ct_of (lv := [(0, Rf G 5), (1, I 1)]) (by decide +kernel) (Nat.le_of_ble_eq_true rfl) rfl ?_
  refine r_aload_n dX1_seek_0 rfl rfl ?_
  refine r_iload_n dX1_seek_1 rfl rfl ?_
  refine r_putI (z := 5) tyX1 dX1_seek_2 sh5 rfl (ci := 1) (j := 5) rfl (Nat.le_of_ble_eq_true rfl) rfl tyX1_ok nmX1 ixX1 q79 rfl rfl rfl ?_
  refine r_aload_n dX1_seek_5 rfl rfl ?_
  refine r_iconst dX1_seek_6 ?_
  refine r_putI (z := 6) tyX1 dX1_seek_7 sh5 rfl (ci := 1) (j := 6) rfl (Nat.le_of_ble_eq_true rfl) rfl tyX1_ok nmX1 ixX1 q80 rfl rfl rfl ?_
  refine r_aload_n dX1_seek_10 rfl rfl ?_
  refine r_callV (tX1_leaveAllColumns G (up (up σ 5 5 1) 5 6 0)  (by rw [up_ne (by decide), up_ne (by decide)]; exact hC)) dX1_seek_11 svX1_leaveAllColumns q266 sh5 (ci := 1) rfl rfl rfl ⟨Nat.le_of_ble_eq_true rfl, Nat.le_of_ble_eq_true rfl⟩ (Nat.le_of_ble_eq_true rfl) ⟨Nat.le_of_ble_eq_true rfl, Nat.le_of_ble_eq_true rfl⟩ ?_
  rintro _ _ ⟨rfl, rfl⟩
  obtain ⟨s, hS⟩ : ∃ s, s = up (ov (up (up σ 5 5 1) 5 6 0) 8 0 ((up (up σ 5 5 1) 5 6 0) 1 1) (fun j => j)) 9 0 ((up (up σ 5 5 1) 5 6 0) 1 1) := ⟨_, rfl⟩
  rw [← hS]
  have s5 : s 5 5 = 1 := by rw [hS, up_ne (by decide), ov_ne (by decide), up_nj (by decide), up_eq]
  have s6 : s 5 6 = 0 := by rw [hS, up_ne (by decide), ov_ne (by decide), up_eq]
  have e1 : s 1 = σ 1 := by rw [hS, up_ne (by decide), ov_ne (by decide), up_ne (by decide), up_ne (by decide)]
  have e2 : s 2 = σ 2 := by rw [hS, up_ne (by decide), ov_ne (by decide), up_ne (by decide), up_ne (by decide)]
  have e6 : s 6 = σ 6 := by rw [hS, up_ne (by decide), ov_ne (by decide), up_ne (by decide), up_ne (by decide)]
  have e7 : s 7 = σ 7 := by rw [hS, up_ne (by decide), ov_ne (by decide), up_ne (by decide), up_ne (by decide)]
  have esid : ∀ j, 0 ≤ j → j < s 1 1 → s 8 (10 * 0 + j) = j := by intro j a b; rw [e1] at b; rw [hS, up_ne (by decide), ov_at, up_ne (by decide), up_ne (by decide), if_pos (by omega)]; omega
  have ecn : s 9 0 = s 1 1 := by rw [e1, hS, up_eq, up_ne (by decide), up_ne (by decide)]
  have efr : ∀ a, a ≠ 5 → a ≠ 8 → a ≠ 9 → s a = σ a := fun a h5 h8 h9 => by rw [hS, up_ne h9, ov_ne h8, up_ne h5, up_ne h5]
  refine r_aload_n dX1_seek_14 rfl rfl ?_
  refine r_getI (z := 5) dX1_seek_15 sh5 rfl (ci := 1) (j := 5) rfl (Nat.le_of_ble_eq_true rfl) rfl ixX1 q79 rfl (hv := s5) ?_
  refine r_iconst dX1_seek_18 ?_
  refine r_icmp_ne (tgt := 50) dX1_seek_19 (by decide) (by omega) (fun hb1 => ?_) (fun hb1 => ?_)
  · skip
    exact absurd hb1 (by omega)
  · skip
    refine r_aload_n dX1_seek_22 rfl rfl ?_
    refine r_iconst dX1_seek_23 ?_
    refine r_aload_n dX1_seek_24 rfl rfl ?_
    refine r_getR (b := 1) dX1_seek_25 sh5 rfl (ci := 1) (j := 0) rfl (Nat.le_of_ble_eq_true rfl) ixX1 q74 rfl ?_
    refine r_getI (z := 0) dX1_seek_28 sh1 rfl (ci := 5) (j := 0) rfl (Nat.le_of_ble_eq_true rfl) rfl ixX5 q34 rfl (hv := congrFun (e1) 0) ?_
    refine r_iconst dX1_seek_31 ?_
    refine r_isub dX1_seek_32 ?_
    refine r_iconst dX1_seek_33 ?_
    refine r_aload_n dX1_seek_34 rfl rfl ?_
    refine r_getR (b := 1) dX1_seek_35 sh5 rfl (ci := 1) (j := 0) rfl (Nat.le_of_ble_eq_true rfl) ixX1 q74 rfl ?_
    refine r_getI (z := 1) dX1_seek_38 sh1 rfl (ci := 5) (j := 1) rfl (Nat.le_of_ble_eq_true rfl) rfl ixX5 q38 rfl (hv := congrFun (e1) 1) ?_
    refine r_iconst dX1_seek_41 ?_
    refine r_isub dX1_seek_42 ?_
    refine r_iconst dX1_seek_43 ?_
    refine r_callS (tX1_halve G 10 s 0 ((σ 1 0) - 1) 0 ((σ 1 1) - 1) 0 (by rw [e1]; omega) (by rw [e1]; exact hC) (by rw [e2]; exact hT) (esid) (ecn) (by rw [s5]; omega)) dX1_seek_44 svX1_halve q270 rfl ⟨Nat.le_of_ble_eq_true rfl, Nat.le_of_ble_eq_true rfl⟩ (Nat.le_of_ble_eq_true rfl) ⟨Nat.le_of_ble_eq_true rfl, Nat.le_of_ble_eq_true rfl⟩ ?_
    rintro _ _ ⟨rfl, rfl⟩
    obtain ⟨t, hT9⟩ : ∃ t, t = HS 10 s 0 ((σ 1 0) - 1) 0 ((σ 1 1) - 1) := ⟨_, rfl⟩
    rw [← hT9]
    have t5 : t 5 5 = 1 := by rw [hT9, HS_5, s5]
    have t6 : t 5 6 = LW (σ 2) (σ 1 0) (σ 1 1) 1 := by rw [hT9, HS_56, s6, e2, Int.zero_add]; unfold LW; rw [if_neg (by decide), if_pos rfl]
    have g7 : t 7 = σ 7 := by rw [hT9, HS_ne (by decide) (by decide), e7]
    refine r_goto (tgt := 100) dX1_seek_47 (by decide) ?_
    refine r_aload_n dX1_seek_100 rfl rfl ?_
    refine r_getR (b := 7) dX1_seek_101 sh5 rfl (ci := 1) (j := 2) rfl (Nat.le_of_ble_eq_true rfl) ixX1 q76 rfl ?_
    refine r_aload_n dX1_seek_104 rfl rfl ?_
    refine r_getI (z := 5) dX1_seek_105 sh5 rfl (ci := 1) (j := 5) rfl (Nat.le_of_ble_eq_true rfl) rfl ixX1 q79 rfl (hv := t5) ?_
    refine r_aload_n dX1_seek_108 rfl rfl ?_
    refine r_getI (z := 6) dX1_seek_109 sh5 rfl (ci := 1) (j := 6) rfl (Nat.le_of_ble_eq_true rfl) rfl ixX1 q80 rfl (hv := t6) ?_
    refine r_callSN (tX7_setIn G t 7 1 (LW (σ 2) (σ 1 0) (σ 1 1) 1) 3 (sh7) (by omega)) dX1_seek_112 svX7_setIn nw5 rfl ⟨Nat.le_of_ble_eq_true rfl, Nat.le_of_ble_eq_true rfl⟩ (Nat.le_of_ble_eq_true rfl) ⟨Nat.le_of_ble_eq_true rfl, Nat.le_of_ble_eq_true rfl⟩ ?_
    rintro _ _ ⟨rfl, rfl⟩
    exact r_vret dX1_seek_115 rfl (by rw [hP]; exact ⟨rfl, fun a h5 h6 h7 h8 h9 => by rw [up_ne h7, hT9, HS_ne h5 h6]; exact efr a h5 h8 h9, fun x => by
  rw [up_ne (by decide), hT9, HS_6, s5, e2]
  split
  · have := hvP_bd (T := σ 2) 10 0 (σ 1 0 - 1) 0 (σ 1 1 - 1) (x - 10 * 1) (by omega) (by omega) (by omega) (by omega) (by omega) (by omega); omega
  · rw [e6]; exact hp6 x, up_eq, fun x hx => by rw [up_nj hx, g7], fun r a b => by
  rw [up_ne (by decide), hT9, HS_6, s5, e2, if_pos (by omega)]
  unfold PW; rw [if_neg (by decide), if_pos rfl]; congr 1; omega, fun x hx => by
  rw [up_ne (by decide), hT9, HS_6, s5, if_neg (by omega), e6]⟩)

theorem lvF_of {T : Int → Int} {R C : Int} {f : Int → Int} {cnt : Int} {d : Nat} {l : Int} (hl : l = d) (hc : cnt = (lvF T R C d).2.1) (hf : ∀ j : Int, 0 ≤ j → j < (lvF T R C d).2.1 → f j = (lvF T R C d).1 j) : plF T l (R / p2 l) f cnt.toNat = lvF T R C (d + 1) := by
  subst hl hc
  show _ = plF T (d : Int) (R / p2 (d : Int)) (lvF T R C d).1 (lvF T R C d).2.1.toNat
  exact plF_c _ (fun j a b => hf j a (by omega))


theorem flF_c {T : Int → Int} {lvl N : Int} {g g' : Int → Int} {cnt : Nat} {dl : Int} {pl : Int → Int} (hg : ∀ j : Int, 0 ≤ j → j < cnt → g j = g' j) : ∀ k : Nat, flF T lvl N g cnt dl pl k = flF T lvl N g' cnt dl pl k
  | 0 => rfl
  | k + 1 => by
    have ih := flF_c (T := T) (lvl := lvl) (N := N) (dl := dl) (pl := pl) hg k
    simp only [flF]
    rw [ih]
    have h := fun row first last => lsF_c (T := T) (row := row) (first := first) (last := last) (f := g) (g := g') cnt hg
    rw [(h _ _ _).1, (h 0 _ _).2]
theorem fiF_s {T : Int → Int} {R C dl e : Int} {pl q g : Int → Int} {cnt : Int} (he : 0 ≤ e ∧ e ≤ 3) (hc : cnt = (lvF T R C (e + 1).toNat).2.1) (hg : ∀ j : Int, 0 ≤ j → j < (lvF T R C (e + 1).toNat).2.1 → g j = (lvF T R C (e + 1).toNat).1 j) (hq : q = (fiF T R C dl pl (3 - e).toNat).1) :
    (fiF T R C dl pl (3 - (e + -1)).toNat) = ((flF T e (R / p2 e) g cnt.toNat dl q ((R / p2 e + 1) / 2).toNat).1, (fiF T R C dl pl (3 - e).toNat).2 + (flF T e (R / p2 e) g cnt.toNat dl q ((R / p2 e + 1) / 2).toNat).2) := by
  subst hc hq
  obtain ⟨k, hk⟩ : ∃ k : Nat, e = 3 - (k : Int) := ⟨(3 - e).toNat, by omega⟩
  subst hk
  rw [show (3 - (3 - (k : Int) + -1)).toNat = k + 1 by omega, show (3 - (3 - (k : Int))).toNat = k by omega, show (3 - (k : Int) + 1).toNat = 4 - k by omega] at *
  rw [flF_c (g := g) (g' := (lvF T R C (4 - k)).1) (fun j a b => hg j a (by omega))]
  rfl

set_option maxHeartbeats 1000000 in
set_option maxRecDepth 100000 in
theorem tX1_seek2 (G : GT) (σ : Sg)  (hR : 1 ≤ σ 1 0 ∧ σ 1 0 ≤ 10) (hC : 1 ≤ σ 1 1 ∧ σ 1 1 ≤ 10) (hT : ∀ i, 0 ≤ σ 2 i ∧ σ 2 i ≤ 9999) (hp6 : ∀ x, -1 ≤ σ 6 x ∧ σ 6 x ≤ 9) : Ct G mX1_seek 15 0 0 false (SH Ω) (SH Ω) [Rf G 5, I 2] σ (fun rv sv => none = rv ∧ SeekP σ sv 2) := by
  obtain ⟨P, hP⟩ : ∃ P : Option Value → Sg → Prop, P = (fun rv sv => none = rv ∧ SeekP σ sv 2) := ⟨_, rfl⟩
  rw [← hP]
  refine ct_of (lv := [(0, Rf G 5), (1, I 2)]) (by decide +kernel) (Nat.le_of_ble_eq_true rfl) rfl ?_
  refine r_aload_n dX1_seek_0 rfl rfl ?_
  refine r_iload_n dX1_seek_1 rfl rfl ?_
  refine r_putI (z := 5) tyX1 dX1_seek_2 sh5 rfl (ci := 1) (j := 5) rfl (Nat.le_of_ble_eq_true rfl) rfl tyX1_ok nmX1 ixX1 q79 rfl rfl rfl ?_
  refine r_aload_n dX1_seek_5 rfl rfl ?_
  refine r_iconst dX1_seek_6 ?_
  refine r_putI (z := 6) tyX1 dX1_seek_7 sh5 rfl (ci := 1) (j := 6) rfl (Nat.le_of_ble_eq_true rfl) rfl tyX1_ok nmX1 ixX1 q80 rfl rfl rfl ?_
  refine r_aload_n dX1_seek_10 rfl rfl ?_
  refine r_callV (tX1_leaveAllColumns G (up (up σ 5 5 2) 5 6 0)  (by rw [up_ne (by decide), up_ne (by decide)]; exact hC)) dX1_seek_11 svX1_leaveAllColumns q266 sh5 (ci := 1) rfl rfl rfl ⟨Nat.le_of_ble_eq_true rfl, Nat.le_of_ble_eq_true rfl⟩ (Nat.le_of_ble_eq_true rfl) ⟨Nat.le_of_ble_eq_true rfl, Nat.le_of_ble_eq_true rfl⟩ ?_
  rintro _ _ ⟨rfl, rfl⟩
  obtain ⟨s, hS⟩ : ∃ s, s = up (ov (up (up σ 5 5 2) 5 6 0) 8 0 ((up (up σ 5 5 2) 5 6 0) 1 1) (fun j => j)) 9 0 ((up (up σ 5 5 2) 5 6 0) 1 1) := ⟨_, rfl⟩
  rw [← hS]
  have s5 : s 5 5 = 2 := by rw [hS, up_ne (by decide), ov_ne (by decide), up_nj (by decide), up_eq]
  have s6 : s 5 6 = 0 := by rw [hS, up_ne (by decide), ov_ne (by decide), up_eq]
  have e1 : s 1 = σ 1 := by rw [hS, up_ne (by decide), ov_ne (by decide), up_ne (by decide), up_ne (by decide)]
  have e2 : s 2 = σ 2 := by rw [hS, up_ne (by decide), ov_ne (by decide), up_ne (by decide), up_ne (by decide)]
  have e6 : s 6 = σ 6 := by rw [hS, up_ne (by decide), ov_ne (by decide), up_ne (by decide), up_ne (by decide)]
  have e7 : s 7 = σ 7 := by rw [hS, up_ne (by decide), ov_ne (by decide), up_ne (by decide), up_ne (by decide)]
  have esid : ∀ j, 0 ≤ j → j < s 1 1 → s 8 (10 * 0 + j) = j := by intro j a b; rw [e1] at b; rw [hS, up_ne (by decide), ov_at, up_ne (by decide), up_ne (by decide), if_pos (by omega)]; omega
  have ecn : s 9 0 = s 1 1 := by rw [e1, hS, up_eq, up_ne (by decide), up_ne (by decide)]
  have efr : ∀ a, a ≠ 5 → a ≠ 8 → a ≠ 9 → s a = σ a := fun a h5 h8 h9 => by rw [hS, up_ne h9, ov_ne h8, up_ne h5, up_ne h5]
  refine r_aload_n dX1_seek_14 rfl rfl ?_
  refine r_getI (z := 5) dX1_seek_15 sh5 rfl (ci := 1) (j := 5) rfl (Nat.le_of_ble_eq_true rfl) rfl ixX1 q79 rfl (hv := s5) ?_
  refine r_iconst dX1_seek_18 ?_
  refine r_icmp_ne (tgt := 50) dX1_seek_19 (by decide) (by omega) (fun hb1 => ?_) (fun hb1 => ?_)
  · skip
    refine r_aload_n dX1_seek_50 rfl rfl ?_
    refine r_getI (z := 5) dX1_seek_51 sh5 rfl (ci := 1) (j := 5) rfl (Nat.le_of_ble_eq_true rfl) rfl ixX1 q79 rfl (hv := s5) ?_
    refine r_iconst dX1_seek_54 ?_
    refine r_icmp_ne (tgt := 96) dX1_seek_55 (by decide) (by omega) (fun hb2 => ?_) (fun hb2 => ?_)
    · skip
      exact absurd hb2 (by omega)
    · skip
      refine r_iconst dX1_seek_58 ?_
      refine r_istore_n (lv' := [(0, Rf G 5), (1, I 2), (2, I 0)]) dX1_seek_59 rfl (Nat.le_of_ble_eq_true rfl) rfl ?_
      have L60 : ∀ (mm : Nat) (l : Int) (u : Sg), (4 - l).toNat = mm → (hl : 0 ≤ l ∧ l ≤ 4) → (ufr : ∀ a, a ≠ 5 → a ≠ 8 → a ≠ 9 → u a = σ a) → (u5 : u 5 5 = 2) → (u6 : u 5 6 = lkF (σ 2) (σ 1 0) (σ 1 1) l.toNat) → (hlv : ∀ d : Nat, (d : Int) ≤ l → u 9 (d : Int) = (lvF (σ 2) (σ 1 0) (σ 1 1) d).2.1 ∧ ∀ j : Int, 0 ≤ j → j < (lvF (σ 2) (σ 1 0) (σ 1 1) d).2.1 → u 8 (10 * (d : Int) + j) = (lvF (σ 2) (σ 1 0) (σ 1 1) d).1 j) → Rn G mX1_seek (rmD 15 0 0) E0 (Zn G false (SH Ω) P 0 0) false (SH Ω) 0 0 60 [(0, Rf G 5), (1, I 2), (2, I l)] [] u := by
        intro mm
        induction mm using Nat.strongRecOn with
        | _ mm ih60 =>
        intro l u hm60 hl ufr u5 u6 hlv
        have hlb := lvF_bd (T := σ 2) (R := σ 1 0) (C := σ 1 1) hR hC l.toNat (by omega)
        refine r_iload_n dX1_seek_60 rfl rfl ?_
        refine r_iconst dX1_seek_61 ?_
        refine r_icmp_ge (tgt := 76) dX1_seek_62 (by decide) (by omega) (fun hb3 => ?_) (fun hb3 => ?_)
        · skip
          refine r_iconst dX1_seek_76 ?_
          refine r_istore_n (lv' := [(0, Rf G 5), (1, I 2), (2, I 3)]) dX1_seek_77 rfl (Nat.le_of_ble_eq_true rfl) rfl ?_
          have L78 : ∀ (mm : Nat) (e : Int) (v : Sg), (e + 1).toNat = mm → (hl2 : -1 ≤ e ∧ e ≤ 3) → (vfr : ∀ a, a ≠ 5 → a ≠ 6 → v a = u a) → (v5 : v 5 5 = 2) → (v56 : v 5 6 = lkF (σ 2) (σ 1 0) (σ 1 1) 4 + (fiF (σ 2) (σ 1 0) (σ 1 1) (σ 1 1 - 1) (fun r => σ 6 (10 * 2 + r)) (3 - e).toNat).2) → (v6 : ∀ x, -1 ≤ v 6 x ∧ v 6 x ≤ 9) → (vpl : ∀ x, v 6 (10 * 2 + x) = (fiF (σ 2) (σ 1 0) (σ 1 1) (σ 1 1 - 1) (fun r => σ 6 (10 * 2 + r)) (3 - e).toNat).1 x) → (vout : ∀ x, (x < 20 ∨ 30 ≤ x) → v 6 x = σ 6 x) → Rn G mX1_seek (rmD 15 0 0) E0 (Zn G false (SH Ω) P 0 0) false (SH Ω) 0 0 78 [(0, Rf G 5), (1, I 2), (2, I e)] [] v := by
            intro mm
            induction mm using Nat.strongRecOn with
            | _ mm ih78 =>
            intro e v hm78 hl2 vfr v5 v56 v6 vpl vout
            have hlb2 := lvF_bd (T := σ 2) (R := σ 1 0) (C := σ 1 1) hR hC (e + 1).toNat (by omega)
            have hlv1 := hlv (e + 1).toNat (by omega)
            rw [show (((e + 1).toNat : Nat) : Int) = e + 1 by omega, ← vfr 8 (by decide) (by decide), ← vfr 9 (by decide) (by decide)] at hlv1
            obtain ⟨v9, v8⟩ := hlv1
            refine r_iload_n dX1_seek_78 rfl rfl ?_
            refine r_if_lt (tgt := 93) dX1_seek_79 (by decide) (by omega) (fun hb4 => ?_) (fun hb4 => ?_)
            · skip
              refine r_goto (tgt := 100) dX1_seek_93 (by decide) ?_
              have t5 := v5
              have tfr : ∀ a, a ≠ 5 → a ≠ 6 → a ≠ 8 → a ≠ 9 → v a = s a := fun a h5 h6 h8 h9 => by rw [vfr a h5 h6, ufr a h5 h8 h9, efr a h5 h8 h9]
              refine r_aload_n dX1_seek_100 rfl rfl ?_
              refine r_getR (b := 7) dX1_seek_101 sh5 rfl (ci := 1) (j := 2) rfl (Nat.le_of_ble_eq_true rfl) ixX1 q76 rfl ?_
              refine r_aload_n dX1_seek_104 rfl rfl ?_
              refine r_getI (z := 5) dX1_seek_105 sh5 rfl (ci := 1) (j := 5) rfl (Nat.le_of_ble_eq_true rfl) rfl ixX1 q79 rfl (hv := v5) ?_
              refine r_aload_n dX1_seek_108 rfl rfl ?_
              refine r_getI (z := 6) dX1_seek_109 sh5 rfl (ci := 1) (j := 6) rfl (Nat.le_of_ble_eq_true rfl) rfl ixX1 q80 rfl (hv := rfl) ?_
              refine r_callSN (tX7_setIn G v 7 2 (v 5 6) 3 (sh7) (by omega)) dX1_seek_112 svX7_setIn nw5 rfl ⟨Nat.le_of_ble_eq_true rfl, Nat.le_of_ble_eq_true rfl⟩ (Nat.le_of_ble_eq_true rfl) ⟨Nat.le_of_ble_eq_true rfl, Nat.le_of_ble_eq_true rfl⟩ ?_
              rintro _ _ ⟨rfl, rfl⟩
              exact r_vret dX1_seek_115 rfl (by rw [hP]; exact ⟨rfl, fun a h5 h6 h7 h8 h9 => by rw [up_ne h7]; rw [vfr a h5 h6]; exact ufr a h5 h8 h9, fun x => by rw [up_ne (by decide)]; exact v6 x, by
  rw [up_eq, v56, show (3 - e).toNat = 4 by omega, (fiF_ind (T := σ 2) (C := σ 1 1) (dl := σ 1 1 - 1) (q := fun r => σ 6 (10 * 2 + r)) (q' := fun _ => 0) hR 4 (by omega)).2]
  unfold LW; rw [if_neg (by decide), if_neg (by decide)], fun x hx => by rw [up_nj hx, vfr 7 (by decide) (by decide), ufr 7 (by decide) (by decide) (by decide)], fun r a b => by
  rw [up_ne (by decide), vpl, show (3 - e).toNat = 4 by omega, (fiF_ind (T := σ 2) (C := σ 1 1) (dl := σ 1 1 - 1) (q := fun r => σ 6 (10 * 2 + r)) (q' := fun _ => 0) hR 4 (by omega)).1 r a b (by rw [show (4 - ((4 : Nat) : Int)) = 0 by omega, p2_0]; omega)]
  unfold PW; rw [if_neg (by decide), if_neg (by decide)], fun x hx => by rw [up_ne (by decide)]; exact vout x (by omega)⟩)
            · skip
              refine r_aload_n dX1_seek_82 rfl rfl ?_
              refine r_iload_n dX1_seek_83 rfl rfl ?_
              refine r_callV (tX1_fillBetween G v e (by omega) (by rw [vfr 1 (by decide) (by decide), ufr 1 (by decide) (by decide) (by decide)]; exact hR) (by rw [vfr 1 (by decide) (by decide), ufr 1 (by decide) (by decide) (by decide)]; exact hC) (by rw [v9]; exact hlb2.1) (by intro j a b; rw [v9] at b; rw [v8 j a b]; have := hlb2.2 j a b; omega) (v6) (by rw [vfr 2 (by decide) (by decide), ufr 2 (by decide) (by decide) (by decide)]; exact hT) (by rw [v5]; omega)) dX1_seek_84 svX1_fillBetween q302 sh5 (ci := 1) rfl rfl rfl ⟨Nat.le_of_ble_eq_true rfl, Nat.le_of_ble_eq_true rfl⟩ (Nat.le_of_ble_eq_true rfl) ⟨Nat.le_of_ble_eq_true rfl, Nat.le_of_ble_eq_true rfl⟩ ?_
              rintro _ v1 ⟨rfl, hq⟩
              rw [vfr 1 (by decide) (by decide), vfr 2 (by decide) (by decide), ufr 1 (by decide) (by decide) (by decide), ufr 2 (by decide) (by decide) (by decide), v5] at hq
              have hfs := (fiF_s (T := σ 2) (R := σ 1 0) (C := σ 1 1) (dl := σ 1 1 - 1) (pl := fun r => σ 6 (10 * 2 + r)) (q := fun r => v 6 (10 * 2 + r)) (g := fun j => v 8 (10 * (e + 1) + j)) (cnt := v 9 (e + 1)) (by omega) v9 v8 (by funext r; exact vpl r))
              obtain ⟨q1, q2, q3, q4⟩ := hq
              rw [v5] at q4
              have qb := flF_bd (T := σ 2) (lvl := e) (N := σ 1 0 / p2 e) (g := fun j => v 8 (10 * (e + 1) + j)) (cnt := (v 9 (e + 1)).toNat) (dl := σ 1 1 - 1) (pl := fun r => v 6 (10 * 2 + r)) (fun r => v6 _) (fun j a b => by rw [v9] at b; show 0 ≤ v 8 (10 * (e + 1) + j) ∧ v 8 (10 * (e + 1) + j) < 10; rw [v8 j a (by omega)]; have := hlb2.2 j a (by omega); omega) ((σ 1 0 / p2 e + 1) / 2).toNat
              have hNb := rows_bd (R := σ 1 0) (lvl := e) (by omega) hR
              have qo := flF_out (T := σ 2) (lvl := e) (N := σ 1 0 / p2 e) (R := σ 1 0) (g := fun j => v 8 (10 * (e + 1) + j)) (cnt := (v 9 (e + 1)).toNat) (dl := σ 1 1 - 1) (pl := fun r => v 6 (10 * 2 + r)) (by omega) hR rfl ((σ 1 0 / p2 e + 1) / 2).toNat (by omega)
              refine r_iinc (lv' := [(0, Rf G 5), (1, I 2), (2, I (e + (-1)))]) dX1_seek_87 (Nat.le_of_ble_eq_true rfl) rfl rfl ?_
              refine r_goto (tgt := 78) dX1_seek_90 (by decide) ?_
              exact ih78 _ (by omega) (e + (-1)) _ rfl (by omega) (fun a h5 h6 => by rw [q1 a h5 h6]; exact vfr a h5 h6) (by rw [q2, v5]) (by rw [q3, v56, hfs]; simp only []; omega) (by intro x; have := qb (x - 20); rw [← q4, show 10 * 2 + (x - 20) = x by omega] at this; exact this) (by intro x; rw [q4, hfs]) (by intro x hx; by_cases z : x < 20 + σ 1 0; (rw [← vout x hx, show x = 10 * 2 + (x - 20) by omega, q4, qo (x - 20) (by omega)]); (rw [← vout x hx, show x = 10 * 2 + (x - 20) by omega, q4, qo (x - 20) (by omega)]))
          exact L78 _ 3 _ rfl (by omega) (fun _ _ _ => rfl) (u5) (by rw [u6, show l = 4 by omega]; exact (Int.add_zero _).symm) (by rw [ufr 6 (by decide) (by decide) (by decide)]; exact hp6) (by rw [ufr 6 (by decide) (by decide) (by decide)]; exact fun _ => rfl) (by rw [ufr 6 (by decide) (by decide) (by decide)]; exact fun _ _ => rfl)
        · skip
          refine r_aload_n dX1_seek_65 rfl rfl ?_
          refine r_iload_n dX1_seek_66 rfl rfl ?_
          refine r_callV (tX1_pileColumns G u l (by omega) (by rw [ufr 1 (by decide) (by decide) (by decide)]; exact hR) (by have := (hlv l.toNat (by omega)).1; rw [show ((l.toNat : Nat) : Int) = l by omega] at this; rw [this]; exact hlb.1) (by intro j a b; have := (hlv l.toNat (by omega)); rw [show ((l.toNat : Nat) : Int) = l by omega] at this; rw [this.1] at b; rw [this.2 j a b]; have := hlb.2 j a b; omega) (by rw [ufr 2 (by decide) (by decide) (by decide)]; exact hT)) dX1_seek_67 svX1_pileColumns q290 sh5 (ci := 1) rfl rfl rfl ⟨Nat.le_of_ble_eq_true rfl, Nat.le_of_ble_eq_true rfl⟩ (Nat.le_of_ble_eq_true rfl) ⟨Nat.le_of_ble_eq_true rfl, Nat.le_of_ble_eq_true rfl⟩ ?_
          rintro _ u1 ⟨rfl, hp⟩
          have hfe := lvF_of (T := σ 2) (R := σ 1 0) (C := σ 1 1) (d := l.toNat) (l := l) (f := fun j => u 8 (10 * l + j)) (cnt := u 9 l) (by omega) (by have := (hlv l.toNat (by omega)).1; rw [show ((l.toNat : Nat) : Int) = l by omega] at this; exact this) (by intro j a b; have := (hlv l.toNat (by omega)).2 j a b; rw [show ((l.toNat : Nat) : Int) = l by omega] at this; exact this)
          obtain ⟨m, hm⟩ : ∃ m : Nat, l = (m : Int) := ⟨l.toNat, by omega⟩
          have hx : (l + 1).toNat = m + 1 := by omega
          have hy : l.toNat = m := by omega
          rw [hy] at hfe u6
          rw [ufr 1 (by decide) (by decide) (by decide), ufr 2 (by decide) (by decide) (by decide), hfe] at hp
          obtain ⟨p1, p2_, p3, p4, p5, p6, p7⟩ := hp
          refine r_iinc (lv' := [(0, Rf G 5), (1, I 2), (2, I (l + 1))]) dX1_seek_70 (Nat.le_of_ble_eq_true rfl) rfl rfl ?_
          refine r_goto (tgt := 60) dX1_seek_73 (by decide) ?_
          exact ih60 _ (by omega) (l + 1) _ rfl (by omega) (fun a h5 h8 h9 => by rw [p1 a h5 h8 h9]; exact ufr a h5 h8 h9) (by rw [p2_, u5]) (by rw [p3, u6, hx]; rfl) (by intro d hd; by_cases z : (d : Int) = l + 1; (rw [show d = m + 1 by omega, show ((m + 1 : Nat) : Int) = l + 1 by omega]; exact ⟨p4, p6⟩); (rw [p5 _ z]; have := hlv d (by omega); refine ⟨this.1, fun j a b => ?_⟩; have hz := (lvF_bd (T := σ 2) (R := σ 1 0) (C := σ 1 1) hR hC d (by omega)).1; rw [p7 _ (by omega)]; exact this.2 j a b))
      exact L60 _ 0 _ rfl (by omega) (efr) (s5) (s6) (by intro d hd; rw [show d = 0 by omega]; exact ⟨by rw [show ((0 : Nat) : Int) = 0 from rfl, ecn, e1]; rfl, fun j a b => by have b : j < σ 1 1 := b; rw [show ((0 : Nat) : Int) = 0 from rfl]; exact esid j a (by rw [e1]; exact b)⟩)
  · skip
    exact absurd hb1 (by omega)
