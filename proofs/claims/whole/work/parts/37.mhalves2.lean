
theorem hv_ok {T : Int → Int} {R C : Int} {tg : Int → Int} {a b p q m c : Int} {g : Nat} {t : List Blk} (hok : ∀ x ∈ ((a, b, p, q, g + 1) : Blk) :: t, OkB T R C tg x) (hm : m = (a + b) / 2) (hc : c = lsI T m p q) :
    (∀ x ∈ cnB (m + 1) b c q g (cnB a (m - 1) p c g t), OkB T R C tg x) ∧ tg m = c ∧ (p ≤ c ∧ c ≤ q) := by
  obtain ⟨⟨h1, h2, h3, h4, h5, h6, h7⟩, h8⟩ := hok _ List.mem_cons_self
  simp only [] at h1 h2 h3 h4 h5 h6 h7 h8
  have hb := lsI_bd (T := T) (row := m) h4 h5
  rw [← hc] at hb
  have e : ∀ r, hvP T (g + 1) a b p q r = if r = m then c else if r < m then hvP T g a (m - 1) p c r else hvP T g (m + 1) b c q r := fun r => by
    simp only [hvP]
    rw [← hm, ← hc]
  refine ⟨fun x hx => ?_, ?_, hb⟩
  · rcases cnB_mem hx with ⟨k, rfl⟩ | hx
    · refine ⟨⟨by show 0 ≤ m + 1; omega, k, h3, by show 0 ≤ c; omega, hb.2, h6, by show b - (m + 1) + 1 ≤ g; omega⟩, fun r r1 r2 => ?_⟩
      have r1 : m + 1 ≤ r := r1
      have r2 : r ≤ b := r2
      have := h8 r (by omega) r2
      rw [e, if_neg (by omega), if_neg (by omega)] at this
      exact this
    · rcases cnB_mem hx with ⟨k, rfl⟩ | hx
      · refine ⟨⟨h1, k, by show m - 1 < R; omega, h4, hb.1, by show c < C; omega, by show m - 1 - a + 1 ≤ g; omega⟩, fun r r1 r2 => ?_⟩
        have r1 : a ≤ r := r1
        have r2 : r ≤ m - 1 := r2
        have := h8 r r1 (by omega)
        rw [e, if_neg (by omega), if_pos (by omega)] at this
        exact this
      · exact hok x (List.mem_cons_of_mem _ hx)
  · have := h8 m (by omega) (by omega)
    rw [e, if_pos rfl] at this
    exact this.symm
theorem hv_lk {T : Int → Int} {a b p q m c : Int} {g : Nat} {t : List Blk} (hab : a ≤ b) (hm : m = (a + b) / 2) (hc : c = lsI T m p q) : (q - p + 1) + lkB T (cnB (m + 1) b c q g (cnB a (m - 1) p c g t)) = lkB T ((a, b, p, q, g + 1) :: t) := by
  rw [cnB_lk, cnB_lk]
  show _ = hvL T (g + 1) a b p q + lkB T t
  simp only [hvL]
  rw [if_neg (by omega), ← hm, ← hc]
  omega
theorem hv_pl {R : Int} {tg : Int → Int} {s u : Sg} {a b p q m c : Int} {g : Nat} {t : List Blk} (hpl : ∀ r, 0 ≤ r → r < R → s 52 r = tg r ∨ ∃ x ∈ ((a, b, p, q, g + 1) : Blk) :: t, x.1 ≤ r ∧ r ≤ x.2.1) (hu : ∀ r, u 52 r = if r = m then c else s 52 r) (ht : tg m = c) :
    ∀ r, 0 ≤ r → r < R → u 52 r = tg r ∨ ∃ x ∈ cnB (m + 1) b c q g (cnB a (m - 1) p c g t), x.1 ≤ r ∧ r ≤ x.2.1 := by
  intro r r1 r2
  by_cases e : r = m
  · left; rw [hu, if_pos e, e, ht]
  · rcases hpl r r1 r2 with h | ⟨x, hx, h1, h2⟩
    · left; rw [hu, if_neg e, h]
    · right
      rcases List.mem_cons.mp hx with rfl | hx
      · have h1 : a ≤ r := h1
        have h2 : r ≤ b := h2
        by_cases k : r < m
        · exact ⟨_, cnB_in (cnB_at (by omega)), h1, by show r ≤ m - 1; omega⟩
        · exact ⟨_, cnB_at (by omega), by show m + 1 ≤ r; omega, h2⟩
      · exact ⟨x, cnB_in (cnB_in hx), h1, h2⟩
def HalvP (σ sv : Sg) : Prop := (∀ o, o ≠ 46 → o ≠ 52 → o ≠ 53 → sv o = σ o) ∧ (∀ j, j ≠ 9 → j ≠ 11 → sv 46 j = σ 46 j) ∧ sv 46 9 = σ 46 9 + hvL (tM (σ 47)) 10 0 (σ 47 0 - 1) 0 (σ 47 1 - 1) ∧ (∀ r, 0 ≤ r → r < σ 47 0 → sv 52 r = hvP (tM (σ 47)) 10 0 (σ 47 0 - 1) 0 (σ 47 1 - 1) r) ∧ ∀ r, (r < 0 ∨ σ 47 0 ≤ r) → sv 52 r = σ 52 r

set_option maxHeartbeats 1000000 in
set_option maxRecDepth 100000 in
theorem tX8_byHalves (G : GT) (σ : Sg)  (hR : 1 ≤ σ 47 0 ∧ σ 47 0 ≤ 10) (hC : 1 ≤ σ 47 1 ∧ σ 47 1 ≤ 10) (hT : ∀ i, 0 ≤ tM (σ 47) i ∧ tM (σ 47) i ≤ 9999) : Ct G mX8_byHalves 3 0 0 false SH SH [Rf G 46] σ (fun rv sv => none = rv ∧ HalvP σ sv) := by
  obtain ⟨P, hP⟩ : ∃ P : Option Value → Sg → Prop, P = (fun rv sv => none = rv ∧ HalvP σ sv) := ⟨_, rfl⟩
  rw [← hP]
  refine ct_of (lv := [(0, Rf G 46)]) (by decide +kernel) (Nat.le_of_ble_eq_true rfl) rfl ?_
  refine r_aload_n dX8_byHalves_0 rfl rfl ?_
  refine r_iconst dX8_byHalves_1 ?_
  refine r_putI (z := 11) tyX8 dX8_byHalves_2 sh46 rfl (ci := 8) (j := 11) rfl (Nat.le_of_ble_eq_true rfl) rfl tyX8_ok nmX8 ixX8 q653 rfl rfl rfl ?_
  refine r_aload_n dX8_byHalves_5 rfl rfl ?_
  refine r_iconst dX8_byHalves_6 ?_
  refine r_aload_n dX8_byHalves_7 rfl rfl ?_
  refine r_getR (b := 47) dX8_byHalves_8 sh46 rfl (ci := 8) (j := 0) rfl (Nat.le_of_ble_eq_true rfl) ixX8 q642 rfl ?_
  refine r_iconst dX8_byHalves_11 ?_
  refine r_iald dX8_byHalves_12 sh47 (by omega) (hv := congrFun (up_ne (by decide)) 0) ?_
  refine r_iconst dX8_byHalves_13 ?_
  refine r_isub dX8_byHalves_14 ?_
  refine r_iconst dX8_byHalves_15 ?_
  refine r_aload_n dX8_byHalves_16 rfl rfl ?_
  refine r_getR (b := 47) dX8_byHalves_17 sh46 rfl (ci := 8) (j := 0) rfl (Nat.le_of_ble_eq_true rfl) ixX8 q642 rfl ?_
  refine r_iconst dX8_byHalves_20 ?_
  refine r_iald dX8_byHalves_21 sh47 (by omega) (hv := congrFun (up_ne (by decide)) 1) ?_
  refine r_iconst dX8_byHalves_22 ?_
  refine r_isub dX8_byHalves_23 ?_
  refine r_callV (tX8_opens G (up σ 46 11 0) 0 ((σ 47 0) - 1) 0 ((σ 47 1) - 1) (by rw [up_eq]; omega)) dX8_byHalves_24 svX8_opens q735 sh46 (ci := 8) rfl rfl rfl ⟨Nat.le_of_ble_eq_true rfl, Nat.le_of_ble_eq_true rfl⟩ (Nat.le_of_ble_eq_true rfl) ⟨Nat.le_of_ble_eq_true rfl, Nat.le_of_ble_eq_true rfl⟩ ?_
  rintro _ _ ⟨rfl, rfl⟩
  have L27 : ∀ (mm : Nat) (l : List Blk) (s : Sg), (szB l).toNat = mm → (hl : s 46 11 = l.length) → (hst : StkP s l) → (hok : ∀ x ∈ l, OkB (tM (σ 47)) (σ 47 0) (σ 47 1) (fun r => hvP (tM (σ 47)) 10 0 (σ 47 0 - 1) 0 (σ 47 1 - 1) r) x) → (hsz : szB l ≤ 10) → (hlk : s 46 9 + lkB (tM (σ 47)) l = σ 46 9 + hvL (tM (σ 47)) 10 0 (σ 47 0 - 1) 0 (σ 47 1 - 1)) → (hpl : ∀ r, 0 ≤ r → r < σ 47 0 → s 52 r = (fun r => hvP (tM (σ 47)) 10 0 (σ 47 0 - 1) 0 (σ 47 1 - 1) r) r ∨ ∃ x ∈ l, x.1 ≤ r ∧ r ≤ x.2.1) → (hfr : ∀ o, o ≠ 46 → o ≠ 52 → o ≠ 53 → s o = σ o) → (h46 : ∀ j, j ≠ 9 → j ≠ 11 → s 46 j = σ 46 j) → (hout : ∀ r, (r < 0 ∨ σ 47 0 ≤ r) → s 52 r = σ 52 r) → Rn G mX8_byHalves (rmD 3 0 0) E0 (Zn G false SH P 0 0) false SH 0 0 27 [(0, Rf G 46)] [] s := by
    intro mm
    induction mm using Nat.strongRecOn with
    | _ mm ih27 =>
    intro l s hm27 hl hst hok hsz hlk hpl hfr h46 hout
    have hsl := szB_len l hok
    refine r_aload_n dX8_byHalves_27 rfl rfl ?_
    refine r_getI (z := 11) dX8_byHalves_28 sh46 rfl (ci := 8) (j := 11) rfl (Nat.le_of_ble_eq_true rfl) rfl ixX8 q653 rfl (hv := rfl) ?_
    refine r_if_le (tgt := 160) dX8_byHalves_31 (by decide) (by omega) (fun hb1 => ?_) (fun hb1 => ?_)
    · skip
      exact r_vret dX8_byHalves_160 rfl (by rw [hP]; exact ⟨rfl, hfr, h46, by cases l with
    | nil => rw [← hlk]; exact (Int.add_zero _).symm
    | cons x t => exact absurd hl (by simp; omega), fun r r1 r2 => by
    rcases hpl r r1 r2 with h | ⟨x, hx, -, -⟩
    · exact h
    · cases l with
      | nil => cases hx
      | cons y t => exact absurd hl (by simp; omega), hout⟩)
    · skip
      obtain ⟨⟨a, b, p, q, f⟩, t, rfl⟩ : ∃ x t, l = x :: t := by
        cases l with
        | nil => exact absurd hl (by simp; omega)
        | cons x t => exact ⟨x, t, rfl⟩
      have hx := (hok _ List.mem_cons_self).1
      simp only [] at hx
      obtain ⟨g, rfl⟩ : ∃ g : Nat, f = g + 1 := ⟨f - 1, by omega⟩
      obtain ⟨n, hn9⟩ : ∃ n : Int, n = (t.length : Int) := ⟨_, rfl⟩
      have hl9 : s 46 11 = n + 1 := by rw [hl, hn9]; simp
      have hsz9 : szB ((a, b, p, q, g + 1) :: t) = (b - a + 1) + szB t := rfl
      have hst9 := szB_len t (fun x hx => hok x (List.mem_cons_of_mem _ hx))
      refine r_aload_n dX8_byHalves_34 rfl rfl ?_
      refine r_dup dX8_byHalves_35 rfl ?_
      refine r_getI (z := 11) dX8_byHalves_36 sh46 rfl (ci := 8) (j := 11) rfl (Nat.le_of_ble_eq_true rfl) rfl ixX8 q653 rfl (hv := rfl) ?_
      refine r_iconst dX8_byHalves_39 ?_
      refine r_isub dX8_byHalves_40 ?_
      refine r_putI (z := 11) tyX8 dX8_byHalves_41 sh46 rfl (ci := 8) (j := 11) rfl (Nat.le_of_ble_eq_true rfl) rfl tyX8_ok nmX8 ixX8 q653 rfl rfl rfl ?_
      obtain ⟨w, hw9⟩ : ∃ z : Sg, z = up s 46 11 ((s 46 11) - 1) := ⟨_, rfl⟩
      rw [← hw9]
      have w11 : w 46 11 = n := by rw [hw9, up_eq]; omega
      have w53 : w 53 = s 53 := by rw [hw9, up_ne (by decide)]
      have w47 : w 47 = σ 47 := by rw [hw9, up_ne (by decide)]; exact hfr 47 (by decide) (by decide) (by decide)
      obtain ⟨⟨x1, x2, x3, x4⟩, hst2⟩ := hst
      rw [← hn9] at x1 x2 x3 x4
      refine r_aload_n dX8_byHalves_44 rfl rfl ?_
      refine r_getR (b := 53) dX8_byHalves_45 sh46 rfl (ci := 8) (j := 10) rfl (Nat.le_of_ble_eq_true rfl) ixX8 q652 rfl ?_
      refine r_iconst dX8_byHalves_48 ?_
      refine r_aload_n dX8_byHalves_49 rfl rfl ?_
      refine r_getI (z := 11) dX8_byHalves_50 sh46 rfl (ci := 8) (j := 11) rfl (Nat.le_of_ble_eq_true rfl) rfl ixX8 q653 rfl (hv := w11) ?_
      refine r_imul dX8_byHalves_53 ?_
      refine r_iald dX8_byHalves_54 sh53 (by omega) (hv := (congrFun w53 (4 * n)).trans x1) ?_
      refine r_istore_n (lv' := [(0, Rf G 46), (1, I a)]) dX8_byHalves_55 rfl (Nat.le_of_ble_eq_true rfl) rfl ?_
      refine r_aload_n dX8_byHalves_56 rfl rfl ?_
      refine r_getR (b := 53) dX8_byHalves_57 sh46 rfl (ci := 8) (j := 10) rfl (Nat.le_of_ble_eq_true rfl) ixX8 q652 rfl ?_
      refine r_iconst dX8_byHalves_60 ?_
      refine r_aload_n dX8_byHalves_61 rfl rfl ?_
      refine r_getI (z := 11) dX8_byHalves_62 sh46 rfl (ci := 8) (j := 11) rfl (Nat.le_of_ble_eq_true rfl) rfl ixX8 q653 rfl (hv := w11) ?_
      refine r_imul dX8_byHalves_65 ?_
      refine r_iconst dX8_byHalves_66 ?_
      refine r_iadd dX8_byHalves_67 ?_
      refine r_iald dX8_byHalves_68 sh53 (by omega) (hv := (congrFun w53 (4 * n + 1)).trans x2) ?_
      refine r_istore_n (lv' := [(0, Rf G 46), (1, I a), (2, I b)]) dX8_byHalves_69 rfl (Nat.le_of_ble_eq_true rfl) rfl ?_
      refine r_aload_n dX8_byHalves_70 rfl rfl ?_
      refine r_getR (b := 53) dX8_byHalves_71 sh46 rfl (ci := 8) (j := 10) rfl (Nat.le_of_ble_eq_true rfl) ixX8 q652 rfl ?_
      refine r_iconst dX8_byHalves_74 ?_
      refine r_aload_n dX8_byHalves_75 rfl rfl ?_
      refine r_getI (z := 11) dX8_byHalves_76 sh46 rfl (ci := 8) (j := 11) rfl (Nat.le_of_ble_eq_true rfl) rfl ixX8 q653 rfl (hv := w11) ?_
      refine r_imul dX8_byHalves_79 ?_
      refine r_iconst dX8_byHalves_80 ?_
      refine r_iadd dX8_byHalves_81 ?_
      refine r_iald dX8_byHalves_82 sh53 (by omega) (hv := (congrFun w53 (4 * n + 2)).trans x3) ?_
      refine r_istore_n (lv' := [(0, Rf G 46), (1, I a), (2, I b), (3, I p)]) dX8_byHalves_83 rfl (Nat.le_of_ble_eq_true rfl) rfl ?_
      refine r_aload_n dX8_byHalves_84 rfl rfl ?_
      refine r_getR (b := 53) dX8_byHalves_85 sh46 rfl (ci := 8) (j := 10) rfl (Nat.le_of_ble_eq_true rfl) ixX8 q652 rfl ?_
      refine r_iconst dX8_byHalves_88 ?_
      refine r_aload_n dX8_byHalves_89 rfl rfl ?_
      refine r_getI (z := 11) dX8_byHalves_90 sh46 rfl (ci := 8) (j := 11) rfl (Nat.le_of_ble_eq_true rfl) rfl ixX8 q653 rfl (hv := w11) ?_
      refine r_imul dX8_byHalves_93 ?_
      refine r_iconst dX8_byHalves_94 ?_
      refine r_iadd dX8_byHalves_95 ?_
      refine r_iald dX8_byHalves_96 sh53 (by omega) (hv := (congrFun w53 (4 * n + 3)).trans x4) ?_
      refine r_istore (lv' := [(0, Rf G 46), (1, I a), (2, I b), (3, I p), (4, I q)]) dX8_byHalves_97 (Nat.le_of_ble_eq_true rfl) rfl ?_
      refine r_iload_n dX8_byHalves_99 rfl rfl ?_
      refine r_iload_n dX8_byHalves_100 rfl rfl ?_
      refine r_iadd dX8_byHalves_101 ?_
      refine r_iconst dX8_byHalves_102 ?_
      refine r_idiv dX8_byHalves_103 (by omega) ?_
      refine r_istore (lv' := [(0, Rf G 46), (1, I a), (2, I b), (3, I p), (4, I q), (5, I ((a + b) / 2))]) dX8_byHalves_104 (Nat.le_of_ble_eq_true rfl) rfl ?_
      obtain ⟨m, hm⟩ : ∃ z, z = (a + b) / 2 := ⟨_, rfl⟩
      rw [← hm]
      have hmb : a ≤ m ∧ m ≤ b := by omega
      refine r_aload_n dX8_byHalves_106 rfl rfl ?_
      refine r_getR (b := 52) dX8_byHalves_107 sh46 rfl (ci := 8) (j := 8) rfl (Nat.le_of_ble_eq_true rfl) ixX8 q650 rfl ?_
      refine r_iload dX8_byHalves_110 rfl ?_
      refine r_aload_n dX8_byHalves_112 rfl rfl ?_
      refine r_iload dX8_byHalves_113 rfl ?_
      refine r_iload_n dX8_byHalves_115 rfl rfl ?_
      refine r_iload dX8_byHalves_116 rfl ?_
      refine r_callV (tX8_least G w m p q (by omega) (by rw [w47]; exact hT)) dX8_byHalves_118 svX8_least q729 sh46 (ci := 8) rfl rfl rfl ⟨Nat.le_of_ble_eq_true rfl, Nat.le_of_ble_eq_true rfl⟩ (Nat.le_of_ble_eq_true rfl) ⟨Nat.le_of_ble_eq_true rfl, Nat.le_of_ble_eq_true rfl⟩ ?_
      rintro _ _ ⟨rfl, rfl⟩
      rw [w47]
      obtain ⟨c, hc⟩ : ∃ c, c = lsI (tM (σ 47)) m p q := ⟨_, rfl⟩
      rw [← hc]
      have k3 := hv_ok hok hm hc
      refine r_iast dX8_byHalves_121 sh52 (by omega) ?_
      obtain ⟨v, hv9⟩ : ∃ z : Sg, z = up (up w 46 9 (w 46 9 + (q - p + 1))) 52 m c := ⟨_, rfl⟩
      rw [← hv9]
      have v52 : v 52 m = c := by rw [hv9, up_eq]
      have v11 : v 46 11 = n := by rw [hv9, up_ne (by decide), up_nj (by decide), w11]
      have vst : StkP v t := StkP_c t (fun i _ _ => by rw [hv9, up_ne (by decide), up_ne (by decide), w53]) hst2
      refine r_aload_n dX8_byHalves_122 rfl rfl ?_
      refine r_iload_n dX8_byHalves_123 rfl rfl ?_
      refine r_iload dX8_byHalves_124 rfl ?_
      refine r_iconst dX8_byHalves_126 ?_
      refine r_isub dX8_byHalves_127 ?_
      refine r_iload_n dX8_byHalves_128 rfl rfl ?_
      refine r_aload_n dX8_byHalves_129 rfl rfl ?_
      refine r_getR (b := 52) dX8_byHalves_130 sh46 rfl (ci := 8) (j := 8) rfl (Nat.le_of_ble_eq_true rfl) ixX8 q650 rfl ?_
      refine r_iload dX8_byHalves_133 rfl ?_
      refine r_iald dX8_byHalves_135 sh52 (by omega) (hv := v52) ?_
      refine r_callV (tX8_opens G v a (m - 1) p c (by omega)) dX8_byHalves_136 svX8_opens q735 sh46 (ci := 8) rfl rfl rfl ⟨Nat.le_of_ble_eq_true rfl, Nat.le_of_ble_eq_true rfl⟩ (Nat.le_of_ble_eq_true rfl) ⟨Nat.le_of_ble_eq_true rfl, Nat.le_of_ble_eq_true rfl⟩ ?_
      rintro _ _ ⟨rfl, rfl⟩
      have k1 := opS_ok (σ := v) (a := a) (b := m - 1) (p := p) (q := c) (f := g) (l := t) (by rw [v11, hn9]) vst
      have k2 := opS_ok (a := m + 1) (b := b) (p := c) (q := q) (f := g) k1.1 k1.2
      have k4 := szB_len _ (fun x hx => k3.1 x (cnB_in hx))
      rw [cnB_sz (by omega)] at k4
      refine r_aload_n dX8_byHalves_139 rfl rfl ?_
      refine r_iload dX8_byHalves_140 rfl ?_
      refine r_iconst dX8_byHalves_142 ?_
      refine r_iadd dX8_byHalves_143 ?_
      refine r_iload_n dX8_byHalves_144 rfl rfl ?_
      refine r_aload_n dX8_byHalves_145 rfl rfl ?_
      refine r_getR (b := 52) dX8_byHalves_146 sh46 rfl (ci := 8) (j := 8) rfl (Nat.le_of_ble_eq_true rfl) ixX8 q650 rfl ?_
      refine r_iload dX8_byHalves_149 rfl ?_
      refine r_iald dX8_byHalves_151 sh52 (by omega) (hv := (congrFun (opS_ne (by decide) (by decide)) m).trans v52) ?_
      refine r_iload dX8_byHalves_152 rfl ?_
      refine r_callV (tX8_opens G (opS v a (m - 1) p c) (m + 1) b c q (by rw [k1.1]; omega)) dX8_byHalves_154 svX8_opens q735 sh46 (ci := 8) rfl rfl rfl ⟨Nat.le_of_ble_eq_true rfl, Nat.le_of_ble_eq_true rfl⟩ (Nat.le_of_ble_eq_true rfl) ⟨Nat.le_of_ble_eq_true rfl, Nat.le_of_ble_eq_true rfl⟩ ?_
      rintro _ _ ⟨rfl, rfl⟩
      refine r_goto (tgt := 27) dX8_byHalves_157 (by decide) ?_
      refine r_sub [0] rfl ?_
      exact ih27 _ (by rw [cnB_sz (by omega), cnB_sz (by omega)]; omega) (cnB (m + 1) b c q g (cnB a (m - 1) p c g t)) _ rfl (k2.1) (k2.2) (k3.1) (by rw [cnB_sz (by omega), cnB_sz (by omega)]; omega) (by rw [opS_nj (by decide), opS_nj (by decide), hv9, up_ne (by decide), up_eq, hw9, up_nj (by decide), ← hlk, ← hv_lk (m := m) (c := c) (by omega) hm hc]; omega) (hv_pl hpl (fun r => by rw [opS_ne (by decide) (by decide), opS_ne (by decide) (by decide), hv9, up_at, up_ne (by decide), hw9, up_ne (by decide)]) k3.2.1) (fun o h1 h2 h3 => by rw [opS_ne h1 h3, opS_ne h1 h3, hv9, up_ne h2, up_ne h1, hw9, up_ne h1]; exact hfr o h1 h2 h3) (fun j h1 h2 => by rw [opS_nj h2, opS_nj h2, hv9, up_ne (by decide), up_nj h1, hw9, up_nj h2]; exact h46 j h1 h2) (fun r h1 => by rw [opS_ne (by decide) (by decide), opS_ne (by decide) (by decide), hv9, up_nj (by omega), up_ne (by decide), hw9, up_ne (by decide)]; exact hout r h1)
  exact L27 _ (cnB 0 (σ 47 0 - 1) 0 (σ 47 1 - 1) 10 []) _ rfl ((opS_ok (f := 10) (l := []) (by rw [up_eq]; rfl) trivial).1) ((opS_ok (f := 10) (l := []) (by rw [up_eq]; rfl) trivial).2) (fun x hx => by rcases cnB_mem hx with ⟨k, rfl⟩ | hx; exact ⟨⟨by show (0 : Int) ≤ 0; omega, k, by show σ 47 0 - 1 < σ 47 0; omega, by show (0 : Int) ≤ 0; omega, by show 0 ≤ σ 47 1 - 1; omega, by show σ 47 1 - 1 < σ 47 1; omega, by show σ 47 0 - 1 - 0 + 1 ≤ 10; omega⟩, fun _ _ _ => rfl⟩; cases hx) (by rw [cnB_sz (by omega)]; show σ 47 0 - 1 - 0 + 1 + 0 ≤ 10; omega) (by rw [opS_nj (by decide), up_nj (by decide), cnB_lk]; show _ + (_ + 0) = _; omega) (fun r r1 r2 => Or.inr ⟨_, cnB_at (by omega), r1, by show r ≤ σ 47 0 - 1; omega⟩) (fun o h1 h2 h3 => by rw [opS_ne h1 h3, up_ne h1]) (fun j h1 h2 => by rw [opS_nj h2, up_nj h2]) (fun r h1 => by rw [opS_ne (by decide) (by decide), up_ne (by decide)])
