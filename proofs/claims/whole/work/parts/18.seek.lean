
/-- the columns that the levels leave: the list, how many, the looks of the level -/
def lvF (T : Int → Int) (R C : Int) : Nat → (Int → Int) × Int × Int
  | 0 => (fun j => j, C, 0)
  | d + 1 => plF T (d : Int) (R / p2 (d : Int)) (lvF T R C d).1 (lvF T R C d).2.1.toNat
def lkF (T : Int → Int) (R C : Int) : Nat → Int
  | 0 => 0
  | d + 1 => lkF T R C d + (lvF T R C (d + 1)).2.2
/-- the places, from the level 3 down, after k levels -/
def fiF (T : Int → Int) (R C dl : Int) (pl : Int → Int) : Nat → (Int → Int) × Int
  | 0 => (pl, 0)
  | k + 1 => ((flF T (3 - (k : Int)) (R / p2 (3 - (k : Int))) (lvF T R C (4 - k)).1 (lvF T R C (4 - k)).2.1.toNat dl (fiF T R C dl pl k).1 ((R / p2 (3 - (k : Int)) + 1) / 2).toNat).1,
     (fiF T R C dl pl k).2 + (flF T (3 - (k : Int)) (R / p2 (3 - (k : Int))) (lvF T R C (4 - k)).1 (lvF T R C (4 - k)).2.1.toNat dl (fiF T R C dl pl k).1 ((R / p2 (3 - (k : Int)) + 1) / 2).toNat).2)
theorem lvF_bd {T : Int → Int} {R C : Int} (hR : 1 ≤ R ∧ R ≤ 10) (hC : 1 ≤ C ∧ C ≤ 10) : ∀ d : Nat, d ≤ 4 → (0 ≤ (lvF T R C d).2.1 ∧ (lvF T R C d).2.1 ≤ 10) ∧ ∀ j : Int, 0 ≤ j → j < (lvF T R C d).2.1 → 0 ≤ (lvF T R C d).1 j ∧ (lvF T R C d).1 j < C
  | 0, _ => ⟨⟨by show 0 ≤ C; omega, by show C ≤ 10; omega⟩, fun j a b => by
      have b : j < C := b
      exact ⟨a, b⟩⟩
  | d + 1, hd => by
    obtain ⟨h1, h2⟩ := lvF_bd hR hC d (by omega)
    have hN := rows_bd (R := R) (lvl := (d : Int)) (by omega) hR
    have hb := plF_bd (T := T) (lvl := (d : Int)) (N := R / p2 (d : Int)) (src := (lvF T R C d).1) hN.1 (lvF T R C d).2.1.toNat
    refine ⟨⟨hb.1, Int.le_trans hb.2 hN.2⟩, fun j a b => ?_⟩
    obtain ⟨i, z1, z2, z3⟩ := plF_mem (T := T) (lvl := (d : Int)) (N := R / p2 (d : Int)) (src := (lvF T R C d).1) (lvF T R C d).2.1.toNat j a b
    show 0 ≤ (plF T (d : Int) (R / p2 (d : Int)) (lvF T R C d).1 (lvF T R C d).2.1.toNat).1 j ∧ (plF T (d : Int) (R / p2 (d : Int)) (lvF T R C d).1 (lvF T R C d).2.1.toNat).1 j < C
    rw [z3]
    exact h2 i z1 (by omega)
theorem flF_out {T : Int → Int} {lvl N R : Int} {g : Int → Int} {cnt : Nat} {dl : Int} {pl : Int → Int} (hl : 0 ≤ lvl ∧ lvl ≤ 3) (hR : 1 ≤ R ∧ R ≤ 10) (hN : N = R / p2 lvl) : ∀ (k : Nat), 2 * (k : Int) ≤ N + 1 → ∀ r : Int, (r < 0 ∨ R ≤ r) → (flF T lvl N g cnt dl pl k).1 r = pl r
  | 0, _, _, _ => rfl
  | k + 1, hk, r, hr => by
    have ih := flF_out (T := T) (g := g) (cnt := cnt) (dl := dl) (pl := pl) hl hR hN k (by omega) r hr
    have h1 := rows_ok (R := R) (lvl := lvl) (h := 2 * (k : Int) + 1) hl hR (by omega) (by rw [← hN]; omega)
    simp only [flF]
    rw [if_neg (by omega)]
    exact ih
/-- what stood in the places before matters nowhere -/
theorem flF_ind {T : Int → Int} {lvl N R p : Int} {g : Int → Int} {cnt : Nat} {dl : Int} {q q' : Int → Int} (hR : 1 ≤ R ∧ R ≤ 10) (hp : p2 lvl = p) (hp4 : p = 1 ∨ p = 2 ∨ p = 4 ∨ p = 8) (hN : N = R / p)
    (hq : ∀ r : Int, 0 ≤ r → r < R → (r + 1) % (2 * p) = 0 → q r = q' r) : ∀ i : Nat, 2 * (i : Int) ≤ N + 1 →
      (∀ r : Int, 0 ≤ r → r < R → ((r + 1) % (2 * p) = 0 ∨ ∃ j : Int, 0 ≤ j ∧ j < i ∧ r = (2 * j + 1) * p - 1) → (flF T lvl N g cnt dl q i).1 r = (flF T lvl N g cnt dl q' i).1 r) ∧ (flF T lvl N g cnt dl q i).2 = (flF T lvl N g cnt dl q' i).2
  | 0, _ => ⟨fun r a b c => by
      rcases c with c | ⟨j, c1, c2, c3⟩
      · exact hq r a b c
      · omega, rfl⟩
  | i + 1, hi => by
    obtain ⟨h1, h2⟩ := flF_ind (T := T) (g := g) (cnt := cnt) (dl := dl) hR hp hp4 hN hq i (by omega)
    have hf : (if 2 * (i : Int) = 0 then 0 else (flF T lvl N g cnt dl q i).1 (2 * (i : Int) * p2 lvl - 1)) = (if 2 * (i : Int) = 0 then 0 else (flF T lvl N g cnt dl q' i).1 (2 * (i : Int) * p2 lvl - 1)) := by
      by_cases e : 2 * (i : Int) = 0
      · rw [if_pos e, if_pos e]
      · rw [if_neg e, if_neg e, hp]
        subst hN
        rcases hp4 with rfl | rfl | rfl | rfl <;> exact h1 _ (by omega) (by omega) (Or.inl (by omega))
    have hl : (if 2 * (i : Int) + 1 < N then (flF T lvl N g cnt dl q i).1 ((2 * (i : Int) + 2) * p2 lvl - 1) else dl) = (if 2 * (i : Int) + 1 < N then (flF T lvl N g cnt dl q' i).1 ((2 * (i : Int) + 2) * p2 lvl - 1) else dl) := by
      by_cases e : 2 * (i : Int) + 1 < N
      · rw [if_pos e, if_pos e, hp]
        subst hN
        rcases hp4 with rfl | rfl | rfl | rfl <;> exact h1 _ (by omega) (by omega) (Or.inl (by omega))
      · rw [if_neg e, if_neg e]
    simp only [flF]
    rw [hf, hl, h2]
    refine ⟨fun r a b c => ?_, rfl⟩
    by_cases e : r = (2 * (i : Int) + 1) * p2 lvl - 1
    · rw [if_pos e, if_pos e]
    · rw [if_neg e, if_neg e]
      apply h1 r a b
      rcases c with c | ⟨j, c1, c2, c3⟩
      · exact Or.inl c
      · right
        refine ⟨j, c1, ?_, c3⟩
        by_cases z : j = i
        · rw [z, ← hp] at c3; exact absurd c3 e
        · omega
theorem fiF_ind {T : Int → Int} {R C dl : Int} {q q' : Int → Int} (hR : 1 ≤ R ∧ R ≤ 10) : ∀ k : Nat, k ≤ 4 → (∀ r : Int, 0 ≤ r → r < R → (r + 1) % (p2 (4 - (k : Int))) = 0 → (fiF T R C dl q k).1 r = (fiF T R C dl q' k).1 r) ∧ (fiF T R C dl q k).2 = (fiF T R C dl q' k).2
  | 0, _ => ⟨fun r a b c => by
      rw [show (4 - ((0 : Nat) : Int)) = 4 by omega, p2_4] at c
      omega, rfl⟩
  | k + 1, hk => by
    obtain ⟨h1, h2⟩ := fiF_ind (T := T) (C := C) (dl := dl) (q := q) (q' := q') hR k (by omega)
    have hy : (k : Int) = 0 ∨ (k : Int) = 1 ∨ (k : Int) = 2 ∨ (k : Int) = 3 := by omega
    have hb := rows_bd (R := R) (lvl := 3 - (k : Int)) (by omega) hR
    have key : ∀ p : Int, p2 (3 - (k : Int)) = p → (p = 1 ∨ p = 2 ∨ p = 4 ∨ p = 8) → p2 (4 - (k : Int)) = 2 * p → _ := fun p e1 e2 e3 =>
      flF_ind (T := T) (lvl := 3 - (k : Int)) (N := R / p2 (3 - (k : Int))) (R := R) (p := p) (g := (lvF T R C (4 - k)).1) (cnt := (lvF T R C (4 - k)).2.1.toNat) (dl := dl) (q := (fiF T R C dl q k).1) (q' := (fiF T R C dl q' k).1) hR e1 e2 (by rw [e1])
        (fun r a b c => h1 r a b (by rw [e3]; exact c)) ((R / p2 (3 - (k : Int)) + 1) / 2).toNat (by omega)
    simp only [fiF]
    rcases hy with hy | hy | hy | hy
    · obtain ⟨g1, g2⟩ := key 8 (by rw [hy]; rfl) (by omega) (by rw [hy]; rfl)
      rw [g2, h2]
      refine ⟨fun r a b c => g1 r a b ?_, rfl⟩
      rw [show (4 - ((k + 1 : Nat) : Int)) = 3 by omega, p2_3] at c
      rw [hy, show (3 - 0 : Int) = 3 by omega, p2_3]
      by_cases z : (r + 1) % 16 = 0
      · exact Or.inl z
      · exact Or.inr ⟨((r + 1) / 8 - 1) / 2, by omega, by omega, by omega⟩
    · obtain ⟨g1, g2⟩ := key 4 (by rw [hy]; rfl) (by omega) (by rw [hy]; rfl)
      rw [g2, h2]
      refine ⟨fun r a b c => g1 r a b ?_, rfl⟩
      rw [show (4 - ((k + 1 : Nat) : Int)) = 2 by omega, p2_2] at c
      rw [hy, show (3 - 1 : Int) = 2 by omega, p2_2]
      by_cases z : (r + 1) % 8 = 0
      · exact Or.inl z
      · exact Or.inr ⟨((r + 1) / 4 - 1) / 2, by omega, by omega, by omega⟩
    · obtain ⟨g1, g2⟩ := key 2 (by rw [hy]; rfl) (by omega) (by rw [hy]; rfl)
      rw [g2, h2]
      refine ⟨fun r a b c => g1 r a b ?_, rfl⟩
      rw [show (4 - ((k + 1 : Nat) : Int)) = 1 by omega, p2_1] at c
      rw [hy, show (3 - 2 : Int) = 1 by omega, p2_1]
      by_cases z : (r + 1) % 4 = 0
      · exact Or.inl z
      · exact Or.inr ⟨((r + 1) / 2 - 1) / 2, by omega, by omega, by omega⟩
    · obtain ⟨g1, g2⟩ := key 1 (by rw [hy]; rfl) (by omega) (by rw [hy]; rfl)
      rw [g2, h2]
      refine ⟨fun r a b c => g1 r a b ?_, rfl⟩
      rw [hy, show (3 - 3 : Int) = 0 by omega, p2_0]
      by_cases z : (r + 1) % 2 = 0
      · exact Or.inl z
      · exact Or.inr ⟨r / 2, by omega, by omega, by omega⟩
/-- the place of a row, and the looks, by a way -/
def PW (T : Int → Int) (R C w r : Int) : Int := if w = 0 then lsI T r 0 (C - 1) else if w = 1 then hvP T 10 0 (R - 1) 0 (C - 1) r else (fiF T R C (C - 1) (fun _ => 0) 4).1 r
def LW (T : Int → Int) (R C w : Int) : Int := if w = 0 then C * R else if w = 1 then hvL T 10 0 (R - 1) 0 (C - 1) else lkF T R C 4 + (fiF T R C (C - 1) (fun _ => 0) 4).2
def SeekP (σ sv : Sg) (w : Int) : Prop :=
  (∀ a, a ≠ 5 → a ≠ 6 → a ≠ 7 → a ≠ 8 → a ≠ 9 → sv a = σ a) ∧ (∀ x, -1 ≤ sv 6 x ∧ sv 6 x ≤ 9) ∧ sv 7 w = LW (σ 2) (σ 1 0) (σ 1 1) w ∧ (∀ x, x ≠ w → sv 7 x = σ 7 x) ∧ (∀ r, 0 ≤ r → r < σ 1 0 → sv 6 (10 * w + r) = PW (σ 2) (σ 1 0) (σ 1 1) w r) ∧ (∀ x, (x < 10 * w ∨ 10 * w + 10 ≤ x) → sv 6 x = σ 6 x)
theorem hvP_bd {T : Int → Int} : ∀ (f : Nat) (a b p q r : Int), 0 ≤ p → p ≤ q → 0 ≤ a → a ≤ r → r ≤ b → b - a + 1 ≤ f → p ≤ hvP T f a b p q r ∧ hvP T f a b p q r ≤ q
  | 0, a, b, p, q, r, _, _, _, _, _, h => by omega
  | f + 1, a, b, p, q, r, hp, hpq, ha, h1, h2, h => by
    have hb := lsI_bd (T := T) (row := (a + b) / 2) hp hpq
    simp only [hvP]
    by_cases c1 : r = (a + b) / 2
    · rw [if_pos c1]; exact hb
    · rw [if_neg c1]
      by_cases c2 : r < (a + b) / 2
      · rw [if_pos c2]
        have := hvP_bd (T := T) f a ((a + b) / 2 - 1) p (lsI T ((a + b) / 2) p q) r hp hb.1 ha h1 (by omega) (by omega)
        omega
      · rw [if_neg c2]
        have := hvP_bd (T := T) f ((a + b) / 2 + 1) b (lsI T ((a + b) / 2) p q) q r (by omega) hb.2 (by omega) (by omega) h2 (by omega)
        omega

set_option maxHeartbeats 1000000 in
set_option maxRecDepth 100000 in
theorem tX1_seek0 (G : GT) (σ : Sg)  (hR : 1 ≤ σ 1 0 ∧ σ 1 0 ≤ 10) (hC : 1 ≤ σ 1 1 ∧ σ 1 1 ≤ 10) (hT : ∀ i, 0 ≤ σ 2 i ∧ σ 2 i ≤ 9999) (hp6 : ∀ x, -1 ≤ σ 6 x ∧ σ 6 x ≤ 9) : Ct G mX1_seek 5 0 0 false SH SH [Rf G 5, I 0] σ (fun rv sv => none = rv ∧ SeekP σ sv 0) := by
  obtain ⟨P, hP⟩ : ∃ P : Option Value → Sg → Prop, P = (fun rv sv => none = rv ∧ SeekP σ sv 0) := ⟨_, rfl⟩
  rw [← hP]
  refine ct_of (lv := [(0, Rf G 5), (1, I 0)]) (by decide +kernel) (Nat.le_of_ble_eq_true rfl) rfl ?_
  refine r_aload_n dX1_seek_0 rfl rfl ?_
  refine r_iload_n dX1_seek_1 rfl rfl ?_
  refine r_putI (z := 5) tyX1 dX1_seek_2 sh5 rfl (ci := 1) (j := 5) rfl (Nat.le_of_ble_eq_true rfl) rfl tyX1_ok nmX1 ixX1 q81 rfl rfl rfl ?_
  refine r_aload_n dX1_seek_5 rfl rfl ?_
  refine r_iconst dX1_seek_6 ?_
  refine r_putI (z := 6) tyX1 dX1_seek_7 sh5 rfl (ci := 1) (j := 6) rfl (Nat.le_of_ble_eq_true rfl) rfl tyX1_ok nmX1 ixX1 q82 rfl rfl rfl ?_
  refine r_aload_n dX1_seek_10 rfl rfl ?_
  refine r_callV (tX1_leaveAllColumns G (up (up σ 5 5 0) 5 6 0)  (by rw [up_ne (by decide), up_ne (by decide)]; exact hC)) dX1_seek_11 svX1_leaveAllColumns q237 sh5 (ci := 1) rfl rfl rfl ⟨Nat.le_of_ble_eq_true rfl, Nat.le_of_ble_eq_true rfl⟩ (Nat.le_of_ble_eq_true rfl) ⟨Nat.le_of_ble_eq_true rfl, Nat.le_of_ble_eq_true rfl⟩ ?_
  rintro _ _ ⟨rfl, rfl⟩
  obtain ⟨s, hS⟩ : ∃ s, s = up (ov (up (up σ 5 5 0) 5 6 0) 8 0 ((up (up σ 5 5 0) 5 6 0) 1 1) (fun j => j)) 9 0 ((up (up σ 5 5 0) 5 6 0) 1 1) := ⟨_, rfl⟩
  rw [← hS]
  have s5 : s 5 5 = 0 := by rw [hS, up_ne (by decide), ov_ne (by decide), up_nj (by decide), up_eq]
  have s6 : s 5 6 = 0 := by rw [hS, up_ne (by decide), ov_ne (by decide), up_eq]
  have e1 : s 1 = σ 1 := by rw [hS, up_ne (by decide), ov_ne (by decide), up_ne (by decide), up_ne (by decide)]
  have e2 : s 2 = σ 2 := by rw [hS, up_ne (by decide), ov_ne (by decide), up_ne (by decide), up_ne (by decide)]
  have e6 : s 6 = σ 6 := by rw [hS, up_ne (by decide), ov_ne (by decide), up_ne (by decide), up_ne (by decide)]
  have e7 : s 7 = σ 7 := by rw [hS, up_ne (by decide), ov_ne (by decide), up_ne (by decide), up_ne (by decide)]
  have esid : ∀ j, 0 ≤ j → j < s 1 1 → s 8 (10 * 0 + j) = j := by intro j a b; rw [e1] at b; rw [hS, up_ne (by decide), ov_at, up_ne (by decide), up_ne (by decide), if_pos (by omega)]; omega
  have ecn : s 9 0 = s 1 1 := by rw [e1, hS, up_eq, up_ne (by decide), up_ne (by decide)]
  have efr : ∀ a, a ≠ 5 → a ≠ 8 → a ≠ 9 → s a = σ a := fun a h5 h8 h9 => by rw [hS, up_ne h9, ov_ne h8, up_ne h5, up_ne h5]
  refine r_aload_n dX1_seek_14 rfl rfl ?_
  refine r_getI (z := 5) dX1_seek_15 sh5 rfl (ci := 1) (j := 5) rfl (Nat.le_of_ble_eq_true rfl) rfl ixX1 q81 rfl (hv := s5) ?_
  refine r_iconst dX1_seek_18 ?_
  refine r_icmp_ne (tgt := 50) dX1_seek_19 (by decide) (by omega) (fun hb1 => ?_) (fun hb1 => ?_)
  · skip
    refine r_aload_n dX1_seek_50 rfl rfl ?_
    refine r_getI (z := 5) dX1_seek_51 sh5 rfl (ci := 1) (j := 5) rfl (Nat.le_of_ble_eq_true rfl) rfl ixX1 q81 rfl (hv := s5) ?_
    refine r_iconst dX1_seek_54 ?_
    refine r_icmp_ne (tgt := 96) dX1_seek_55 (by decide) (by omega) (fun hb2 => ?_) (fun hb2 => ?_)
    · skip
      refine r_aload_n dX1_seek_96 rfl rfl ?_
      refine r_callV (tX1_lookAtAll G s  (by rw [e1]; exact hR) (by rw [e1]; exact hC) (by rw [e2]; exact hT) (esid) (ecn) (by rw [s5]; omega)) dX1_seek_97 svX1_lookAtAll q278 sh5 (ci := 1) rfl rfl rfl ⟨Nat.le_of_ble_eq_true rfl, Nat.le_of_ble_eq_true rfl⟩ (Nat.le_of_ble_eq_true rfl) ⟨Nat.le_of_ble_eq_true rfl, Nat.le_of_ble_eq_true rfl⟩ ?_
      rintro _ _ ⟨rfl, rfl⟩
      obtain ⟨t, hT9⟩ : ∃ t, t = up (ov s 6 (10 * s 5 5) (10 * s 5 5 + s 1 0) (fun j => lsI (s 2) (j - 10 * s 5 5) 0 (s 1 1 - 1))) 5 6 (s 5 6 + s 1 1 * s 1 0) := ⟨_, rfl⟩
      rw [← hT9]
      simp only [e1, e2, s5, s6] at hT9
      have t5 : t 5 5 = 0 := by rw [hT9, up_nj (by decide), ov_ne (by decide), s5]
      have t6 : t 5 6 = LW (σ 2) (σ 1 0) (σ 1 1) 0 := by rw [hT9, up_eq]; unfold LW; rw [if_pos rfl, Int.zero_add]
      have g7 : t 7 = σ 7 := by rw [hT9, up_ne (by decide), ov_ne (by decide), e7]
      refine r_aload_n dX1_seek_100 rfl rfl ?_
      refine r_getR (b := 7) dX1_seek_101 sh5 rfl (ci := 1) (j := 2) rfl (Nat.le_of_ble_eq_true rfl) ixX1 q78 rfl ?_
      refine r_aload_n dX1_seek_104 rfl rfl ?_
      refine r_getI (z := 5) dX1_seek_105 sh5 rfl (ci := 1) (j := 5) rfl (Nat.le_of_ble_eq_true rfl) rfl ixX1 q81 rfl (hv := t5) ?_
      refine r_aload_n dX1_seek_108 rfl rfl ?_
      refine r_getI (z := 6) dX1_seek_109 sh5 rfl (ci := 1) (j := 6) rfl (Nat.le_of_ble_eq_true rfl) rfl ixX1 q82 rfl (hv := t6) ?_
      refine r_callSN (tX7_setIn G t 7 0 (LW (σ 2) (σ 1 0) (σ 1 1) 0) 3 (sh7) (by omega)) dX1_seek_112 svX7_setIn nw7 rfl ⟨Nat.le_of_ble_eq_true rfl, Nat.le_of_ble_eq_true rfl⟩ (Nat.le_of_ble_eq_true rfl) ⟨Nat.le_of_ble_eq_true rfl, Nat.le_of_ble_eq_true rfl⟩ ?_
      rintro _ _ ⟨rfl, rfl⟩
      exact r_vret dX1_seek_115 rfl (by rw [hP]; exact ⟨rfl, fun a h5 h6 h7 h8 h9 => by rw [up_ne h7, hT9, up_ne h5, ov_ne h6]; exact efr a h5 h8 h9, fun x => by
  rw [up_ne (by decide), hT9, up_ne (by decide), ov_at]
  split
  · have := lsI_bd (T := σ 2) (row := x - 10 * 0) (p := 0) (q := σ 1 1 - 1) (by omega) (by omega); omega
  · rw [e6]; exact hp6 x, up_eq, fun x hx => by rw [up_nj hx, g7], fun r a b => by
  rw [up_ne (by decide), hT9, up_ne (by decide), ov_at, if_pos (by omega)]
  unfold PW; rw [if_pos rfl]; congr 1; omega, fun x hx => by
  rw [up_ne (by decide), hT9, up_ne (by decide), ov_at, if_neg (by omega), e6]⟩)
    · skip
      exact absurd hb2 (by omega)
  · skip
    exact absurd hb1 (by omega)
