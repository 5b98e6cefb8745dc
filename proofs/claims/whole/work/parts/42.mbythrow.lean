
theorem lsF_l {T : Int → Int} {row p l l' : Int} {f : Int → Int} : ∀ k : Nat, (∀ j : Int, 0 ≤ j → j < k → f j ≤ l ∧ f j ≤ l') → lsF T row p l f k = lsF T row p l' f k ∧ lcF p l f k = lcF p l' f k
  | 0, _ => ⟨rfl, rfl⟩
  | k + 1, h => by
    obtain ⟨h1, h2⟩ := lsF_l (T := T) (row := row) (p := p) k (fun j a b => h j a (by omega))
    have h3 := h k (by omega) (by omega)
    simp only [lsF, lcF]
    rw [h1, h2]
    unfold lstep
    have e : ∀ q : Prop, (p ≤ f (k : Int) ∧ f (k : Int) ≤ l ∧ q) ↔ (p ≤ f (k : Int) ∧ f (k : Int) ≤ l' ∧ q) := fun q => ⟨fun x => ⟨x.1, h3.2, x.2.2⟩, fun x => ⟨x.1, h3.1, x.2.2⟩⟩
    have e2 : (p ≤ f (k : Int) ∧ f (k : Int) ≤ l) ↔ (p ≤ f (k : Int) ∧ f (k : Int) ≤ l') := ⟨fun x => ⟨x.1, h3.2⟩, fun x => ⟨x.1, h3.1⟩⟩
    refine ⟨?_, ?_⟩
    · split <;> split <;> first | rfl | (rename_i a b; exact absurd ((e _).1 a) b) | (rename_i a b; exact absurd ((e _).2 b) a)
    · congr 1
      split <;> split <;> first | rfl | (rename_i a b; exact absurd (e2.1 a) b) | (rename_i a b; exact absurd (e2.2 b) a)
theorem flF_dl {T : Int → Int} {lvl N : Int} {g : Int → Int} {cnt : Nat} {dl dl' : Int} {pl : Int → Int} (hg : ∀ j : Int, 0 ≤ j → j < cnt → g j ≤ dl ∧ g j ≤ dl') : ∀ k : Nat, flF T lvl N g cnt dl pl k = flF T lvl N g cnt dl' pl k
  | 0 => rfl
  | k + 1 => by
    have ih := flF_dl (T := T) (lvl := lvl) (N := N) (pl := pl) hg k
    simp only [flF]
    rw [ih]
    by_cases c : 2 * (k : Int) + 1 < N
    · rw [if_pos c, if_pos c]
    · rw [if_neg c, if_neg c]
      have h := fun row p => lsF_l (T := T) (row := row) (p := p) (f := g) cnt hg
      rw [(h _ _).1, (h 0 _).2]


theorem lkF_N0 {T : Int → Int} {R C : Int} {d : Nat} (h : R / p2 (d : Int) = 0) : lkF T R C (d + 1) = lkF T R C d := by
  have e : (lvF T R C (d + 1)).2 = (0, 0) := by
    show (plF T (d : Int) (R / p2 (d : Int)) (lvF T R C d).1 (lvF T R C d).2.1.toNat).2 = _
    rw [h]
    exact plF_N0 _
  show lkF T R C d + (lvF T R C (d + 1)).2.2 = _
  rw [e]
  exact Int.add_zero _
theorem lkF_all {T : Int → Int} {R C d : Int} (hd : 0 ≤ d ∧ d ≤ 4) (hR : 1 ≤ R ∧ R ≤ 10) (h : R / p2 d ≤ 0) : lkF T R C d.toNat = lkF T R C 4 := by
  have hy : d = 0 ∨ d = 1 ∨ d = 2 ∨ d = 3 ∨ d = 4 := by omega
  rcases hy with rfl | rfl | rfl | rfl | rfl
  · rw [p2_0] at h; omega
  · rw [p2_1] at h
    show lkF T R C 1 = _
    rw [show (4 : Nat) = 3 + 1 from rfl, lkF_N0 (d := 3) (by show R / p2 3 = 0; rw [p2_3]; omega), lkF_N0 (d := 2) (by show R / p2 2 = 0; rw [p2_2]; omega), lkF_N0 (d := 1) (by show R / p2 1 = 0; rw [p2_1]; omega)]
  · rw [p2_2] at h
    show lkF T R C 2 = _
    rw [show (4 : Nat) = 3 + 1 from rfl, lkF_N0 (d := 3) (by show R / p2 3 = 0; rw [p2_3]; omega), lkF_N0 (d := 2) (by show R / p2 2 = 0; rw [p2_2]; omega)]
  · rw [p2_3] at h
    show lkF T R C 3 = _
    rw [show (4 : Nat) = 3 + 1 from rfl, lkF_N0 (d := 3) (by show R / p2 3 = 0; rw [p2_3]; omega)]
  · rfl
theorem fiF_N0 {T : Int → Int} {R C dl : Int} {pl : Int → Int} : ∀ k : Nat, (∀ j : Nat, j < k → R / p2 (3 - (j : Int)) = 0) → fiF T R C dl pl k = (pl, 0)
  | 0, _ => rfl
  | k + 1, h => by
    have ih := fiF_N0 (T := T) (R := R) (C := C) (dl := dl) (pl := pl) k (fun j a => h j (by omega))
    simp only [fiF]
    rw [ih, h k (by omega)]
    rfl
theorem fiF_no {T : Int → Int} {R C dl d : Int} {pl : Int → Int} (hd : 0 ≤ d ∧ d ≤ 4) (hR : 1 ≤ R ∧ R ≤ 10) (h : R / p2 d ≤ 0) : fiF T R C dl pl (4 - d).toNat = (pl, 0) := by
  have hy : d = 0 ∨ d = 1 ∨ d = 2 ∨ d = 3 ∨ d = 4 := by omega
  rcases hy with rfl | rfl | rfl | rfl | rfl
  · rw [p2_0] at h; omega
  · rw [p2_1] at h
    refine fiF_N0 3 (fun j a => ?_)
    have hj : (j : Int) = 0 ∨ (j : Int) = 1 ∨ (j : Int) = 2 := by omega
    rcases hj with e | e | e
    · rw [e]; show R / p2 3 = 0; rw [p2_3]; omega
    · rw [e]; show R / p2 2 = 0; rw [p2_2]; omega
    · rw [e]; show R / p2 1 = 0; rw [p2_1]; omega
  · rw [p2_2] at h
    refine fiF_N0 2 (fun j a => ?_)
    have hj : (j : Int) = 0 ∨ (j : Int) = 1 := by omega
    rcases hj with e | e
    · rw [e]; show R / p2 3 = 0; rw [p2_3]; omega
    · rw [e]; show R / p2 2 = 0; rw [p2_2]; omega
  · rw [p2_3] at h
    refine fiF_N0 1 (fun j a => ?_)
    have e : (j : Int) = 0 := by omega
    rw [e]; show R / p2 3 = 0; rw [p2_3]; omega
  · rfl
def FindP (σ sv : Sg) (w : Int) : Prop := (∀ o, o ≠ 46 → (o < 52 ∨ 55 < o) → sv o = σ o) ∧ (∀ j, j ≠ 9 → j ≠ 11 → sv 46 j = σ 46 j) ∧ sv 46 9 = LW (tM (σ 47)) (σ 47 0) (σ 47 1) w ∧ (∀ r, 0 ≤ r → r < σ 47 0 → sv 52 r = PW (tM (σ 47)) (σ 47 0) (σ 47 1) w r) ∧ ∀ x, -1 ≤ sv 52 x ∧ sv 52 x ≤ 9
theorem fd_0 {σ t : Sg} {w : Int} (hR : 1 ≤ σ 47 0 ∧ σ 47 0 ≤ 10) (hC : 1 ≤ σ 47 1 ∧ σ 47 1 ≤ 10) (hp52 : ∀ x, -1 ≤ σ 52 x ∧ σ 52 x ≤ 9) (hw : w = 0) (ht : t = up σ 46 9 0 := by rfl) : FindP σ (up (ov t 52 0 (t 47 0) (fun j => lsI (tM (t 47)) j 0 (t 47 1 - 1))) 46 9 (t 46 9 + t 47 1 * t 47 0)) w := by
  have e47 : t 47 = σ 47 := by rw [ht, up_ne (by decide)]
  subst hw
  refine ⟨fun o a b => ?_, fun j a b => ?_, ?_, fun r a b => ?_, fun x => ?_⟩
  · rw [up_ne a, ov_ne (by omega), ht, up_ne a]
  · rw [up_nj a, ov_ne (by decide), ht, up_nj a]
  · rw [up_eq, e47, ht, up_eq]; unfold LW; rw [if_pos rfl]; omega
  · rw [up_ne (by decide), ov_at, e47, if_pos ⟨a, b⟩]; unfold PW; rw [if_pos rfl]
  · rw [up_ne (by decide), ov_at, e47]
    by_cases c : 0 ≤ x ∧ x < σ 47 0
    · rw [if_pos c]
      have := lsI_bd (T := tM (σ 47)) (row := x) (p := 0) (q := σ 47 1 - 1) (by omega) (by omega); omega
    · rw [if_neg c, ht, up_ne (by decide)]; exact hp52 x
theorem fd_1 {σ u : Sg} {w : Int} (hR : 1 ≤ σ 47 0 ∧ σ 47 0 ≤ 10) (hC : 1 ≤ σ 47 1 ∧ σ 47 1 ≤ 10) (hp52 : ∀ x, -1 ≤ σ 52 x ∧ σ 52 x ≤ 9) (hw : w = 1) (hp : HalvP (up σ 46 9 0) u) : FindP σ u w := by
  subst hw
  obtain ⟨p1, p2', p3, p4, p5⟩ := hp
  have e47 : up σ 46 9 0 47 = σ 47 := up_ne (by decide)
  rw [e47] at p3 p4 p5
  refine ⟨fun o a b => ?_, fun j a b => ?_, ?_, fun r a b => ?_, fun x => ?_⟩
  · rw [p1 o a (by omega) (by omega), up_ne a]
  · rw [p2' j a b, up_nj a]
  · rw [p3, up_eq, Int.zero_add]; unfold LW; rw [if_neg (by decide), if_pos rfl]
  · rw [p4 r a b]; unfold PW; rw [if_neg (by decide), if_pos rfl]
  · by_cases c : 0 ≤ x ∧ x < σ 47 0
    · have := hvP_bd (T := tM (σ 47)) 10 0 (σ 47 0 - 1) 0 (σ 47 1 - 1) x (by omega) (by omega) (by omega) (by omega) (by omega) (by omega)
      rw [p4 x c.1 c.2]; omega
    · rw [p5 x (by omega), up_ne (by decide)]; exact hp52 x
theorem fd_2 {σ u : Sg} {w : Int} (hw : w = 2) (hp : FindP (up σ 46 9 0) u 2) : FindP σ u w := by
  subst hw
  obtain ⟨p1, p2', p3, p4, p5⟩ := hp
  have e47 : up σ 46 9 0 47 = σ 47 := up_ne (by decide)
  rw [e47] at p3 p4
  exact ⟨fun o a b => by rw [p1 o a b, up_ne a], fun j a b => by rw [p2' j a b, up_nj a], p3, p4, p5⟩

set_option maxHeartbeats 1000000 in
set_option maxRecDepth 100000 in
theorem tX8_byThrowing (G : GT) (σ : Sg)  (hR : 1 ≤ σ 47 0 ∧ σ 47 0 ≤ 10) (hC : 1 ≤ σ 47 1 ∧ σ 47 1 ≤ 10) (hp52 : ∀ x, -1 ≤ σ 52 x ∧ σ 52 x ≤ 9) (h0 : σ 46 9 = 0) (hT : ∀ i, 0 ≤ tM (σ 47) i ∧ tM (σ 47) i ≤ 9999) : Ct G mX8_byThrowing 4 0 0 false SH SH [Rf G 46] σ (fun rv sv => none = rv ∧ FindP σ sv 2) := by
  obtain ⟨P, hP⟩ : ∃ P : Option Value → Sg → Prop, P = (fun rv sv => none = rv ∧ FindP σ sv 2) := ⟨_, rfl⟩
  rw [← hP]
  refine ct_of (lv := [(0, Rf G 46)]) (by decide +kernel) (Nat.le_of_ble_eq_true rfl) rfl ?_
  refine r_iconst dX8_byThrowing_0 ?_
  refine r_istore_n (lv' := [(0, Rf G 46), (1, I 0)]) dX8_byThrowing_1 rfl (Nat.le_of_ble_eq_true rfl) rfl ?_
  have L2 : ∀ (mm : Nat) (d : Int) (s : Sg), (4 - d).toNat = mm → (hd : 0 ≤ d ∧ d ≤ 4) → (hfr : ∀ o, o ≠ 46 → o ≠ 54 → o ≠ 55 → s o = σ o) → (h46 : ∀ j, j ≠ 9 → s 46 j = σ 46 j) → (f9 : s 46 9 = lkF (tM (σ 47)) (σ 47 0) (σ 47 1) d.toNat) → (hlv : ∀ k : Nat, (k : Int) < d → s 55 (k : Int) = (lvF (tM (σ 47)) (σ 47 0) (σ 47 1) (k + 1)).2.1 ∧ ∀ j : Int, 0 ≤ j → j < (lvF (tM (σ 47)) (σ 47 0) (σ 47 1) (k + 1)).2.1 → s 54 (10 * (k : Int) + j) = (lvF (tM (σ 47)) (σ 47 0) (σ 47 1) (k + 1)).1 j) → Rn G mX8_byThrowing (rmD 4 0 0) E0 (Zn G false SH P 0 0) false SH 0 0 2 [(0, Rf G 46), (1, I d)] [] s := by
    intro mm
    induction mm using Nat.strongRecOn with
    | _ mm ih2 =>
    intro d s hm2 hd hfr h46 f9 hlv
    have hN := rows_bd (R := σ 47 0) (lvl := d) hd hR
    have e47 : s 47 = σ 47 := hfr 47 (by decide) (by decide) (by decide)
    refine r_aload_n dX8_byThrowing_2 rfl rfl ?_
    refine r_getR (b := 47) dX8_byThrowing_3 sh46 rfl (ci := 8) (j := 0) rfl (Nat.le_of_ble_eq_true rfl) ixX8 q642 rfl ?_
    refine r_iconst dX8_byThrowing_6 ?_
    refine r_iald dX8_byThrowing_7 sh47 (by omega) (hv := congrFun (hfr 47 (by decide) (by decide) (by decide)) 0) ?_
    refine r_iload_n dX8_byThrowing_8 rfl rfl ?_
    refine r_ishr dX8_byThrowing_9 (by omega) ?_
    refine r_if_le (tgt := 24) dX8_byThrowing_10 (by decide) (by omega) (fun hb1 => ?_) (fun hb1 => ?_)
    · skip
      have L24 : ∀ (mm : Nat) (e : Int) (v : Sg), e.toNat = mm → (he : 0 ≤ e ∧ e ≤ d) → (vfr : ∀ o, o ≠ 46 → o ≠ 52 → v o = s o) → (v46 : ∀ j, j ≠ 9 → v 46 j = σ 46 j) → (v9 : v 46 9 = lkF (tM (σ 47)) (σ 47 0) (σ 47 1) 4 + (fiF (tM (σ 47)) (σ 47 0) (σ 47 1) (σ 47 1 - 1) (σ 52) (3 - (e + -1)).toNat).2) → (vpl : v 52 = (fiF (tM (σ 47)) (σ 47 0) (σ 47 1) (σ 47 1 - 1) (σ 52) (3 - (e + -1)).toNat).1) → (vb : ∀ x, -1 ≤ v 52 x ∧ v 52 x ≤ 9) → Rn G mX8_byThrowing (rmD 4 0 0) E0 (Zn G false SH P 0 0) false SH 0 0 24 [(0, Rf G 46), (1, I e)] [] v := by
        intro mm
        induction mm using Nat.strongRecOn with
        | _ mm ih24 =>
        intro e v hm24 he vfr v46 v9 vpl vb
        have u47 : v 47 = σ 47 := by rw [vfr 47 (by decide) (by decide), e47]
        refine r_iload_n dX8_byThrowing_24 rfl rfl ?_
        refine r_if_le (tgt := 39) dX8_byThrowing_25 (by decide) (by omega) (fun hb2 => ?_) (fun hb2 => ?_)
        · skip
          exact r_vret dX8_byThrowing_39 rfl (by rw [hP]; exact ⟨rfl, fun o a b => by rw [vfr o a (by omega)]; exact hfr o a (by omega) (by omega), fun j a _ => v46 j a, by
  rw [v9, show (3 - (e + -1)).toNat = 4 by omega, (fiF_ind (T := tM (σ 47)) (C := σ 47 1) (dl := σ 47 1 - 1) (q := σ 52) (q' := fun _ => 0) hR 4 (by omega)).2]
  unfold LW; rw [if_neg (by decide), if_neg (by decide)], fun r a b => by
  rw [vpl, show (3 - (e + -1)).toNat = 4 by omega, (fiF_ind (T := tM (σ 47)) (C := σ 47 1) (dl := σ 47 1 - 1) (q := σ 52) (q' := fun _ => 0) hR 4 (by omega)).1 r a b (by rw [show (4 - ((4 : Nat) : Int)) = 0 by omega, p2_0]; omega)]
  unfold PW; rw [if_neg (by decide), if_neg (by decide)], vb⟩)
        · skip
          refine r_iinc (lv' := [(0, Rf G 46), (1, I (e + (-1)))]) dX8_byThrowing_28 (Nat.le_of_ble_eq_true rfl) rfl rfl ?_
          have hx9 := hlv (e + -1).toNat (by omega)
          rw [show (((e + -1).toNat : Nat) : Int) = e + -1 by omega, show (e + -1).toNat + 1 = (e + -1 + 1).toNat by omega, ← vfr 54 (by decide) (by decide), ← vfr 55 (by decide) (by decide)] at hx9
          obtain ⟨v55, v54⟩ := hx9
          have hlb2 := lvF_bd (T := tM (σ 47)) (R := σ 47 0) (C := σ 47 1) hR hC (e + -1 + 1).toNat (by omega)
          have hgb : ∀ j : Int, 0 ≤ j → j < v 55 (e + -1) → 0 ≤ v 54 (10 * (e + -1) + j) ∧ v 54 (10 * (e + -1) + j) < σ 47 1 := fun j a b => by rw [v55] at b; rw [v54 j a b]; exact hlb2.2 j a b
          refine r_aload_n dX8_byThrowing_31 rfl rfl ?_
          refine r_iload_n dX8_byThrowing_32 rfl rfl ?_
          refine r_callV (tX8_fills G v (e + (-1)) (by rw [u47]; exact hR)  (by rw [u47]; exact hC)  (by omega)  (by rw [v55]; exact hlb2.1)  (fun j a b => by have := hgb j a b; omega)  (vb)  (by rw [u47]; exact hT)) dX8_byThrowing_33 svX8_fills q750 sh46 (ci := 8) rfl rfl rfl ⟨Nat.le_of_ble_eq_true rfl, Nat.le_of_ble_eq_true rfl⟩ (Nat.le_of_ble_eq_true rfl) ⟨Nat.le_of_ble_eq_true rfl, Nat.le_of_ble_eq_true rfl⟩ ?_
          rintro _ w ⟨rfl, hq⟩
          rw [u47, flF_dl (dl := 10) (dl' := σ 47 1 - 1) (fun j a b => by have := hgb j a (by omega); show v 54 (10 * (e + -1) + j) ≤ 10 ∧ v 54 (10 * (e + -1) + j) ≤ σ 47 1 - 1; omega)] at hq
          have hfs := fiF_s (T := tM (σ 47)) (R := σ 47 0) (C := σ 47 1) (dl := σ 47 1 - 1) (pl := σ 52) (e := e + -1) (q := v 52) (g := fun j => v 54 (10 * (e + -1) + j)) (cnt := v 55 (e + -1)) (by omega) v55 v54 vpl
          have qb := flF_bd (T := tM (σ 47)) (lvl := e + -1) (N := σ 47 0 / p2 (e + -1)) (g := fun j => v 54 (10 * (e + -1) + j)) (cnt := (v 55 (e + -1)).toNat) (dl := σ 47 1 - 1) vb (fun j a b => by have := hgb j a (by omega); show 0 ≤ v 54 (10 * (e + -1) + j) ∧ v 54 (10 * (e + -1) + j) < 10; omega) ((σ 47 0 / p2 (e + -1) + 1) / 2).toNat
          refine r_goto (tgt := 24) dX8_byThrowing_36 (by decide) ?_
          exact ih24 _ (by omega) _ _ rfl (by omega) (fun o a b => by rw [hq.1 o a b]; exact vfr o a b) (fun j a => by rw [hq.2.1 j a]; exact v46 j a) (by rw [hq.2.2.1, v9, hfs]; simp only []; omega) (by rw [hq.2.2.2, hfs]) (by rw [hq.2.2.2]; exact qb)
      have hno := fiF_no (T := tM (σ 47)) (C := σ 47 1) (dl := σ 47 1 - 1) (pl := σ 52) hd hR (by omega)
      rw [show (4 - d).toNat = (3 - (d + -1)).toNat by omega] at hno
      exact L24 _ _ _ rfl (by omega) (fun _ _ _ => rfl) (h46) (by rw [f9, hno, lkF_all hd hR (by omega)]; exact (Int.add_zero _).symm) (by rw [hno, hfr 52 (by decide) (by decide) (by decide)]) (by rw [hfr 52 (by decide) (by decide) (by decide)]; exact hp52)
    · skip
      have hdd : d ≤ 3 := by
        rcases (show d ≤ 3 ∨ d = 4 by omega) with q | q
        · exact q
        · have h16 : σ 47 0 / p2 d = 0 := by rw [q, p2_4]; omega
          omega
      obtain ⟨m, hm9⟩ : ∃ m : Nat, d = (m : Int) := ⟨d.toNat, by omega⟩
      have hlb := lvF_bd (T := tM (σ 47)) (R := σ 47 0) (C := σ 47 1) hR hC d.toNat (by omega)
      obtain ⟨cnt, src, hs, hc9, hs9⟩ : ∃ (cnt : Int) (src : Int → Int), ((d = 0 ∧ cnt = s 47 1 ∧ ∀ j, src j = j) ∨ (1 ≤ d ∧ cnt = s 55 (d - 1) ∧ ∀ j, src j = s 54 (10 * (d - 1) + j))) ∧ cnt = (lvF (tM (σ 47)) (σ 47 0) (σ 47 1) d.toNat).2.1 ∧ ∀ j : Int, 0 ≤ j → j < (lvF (tM (σ 47)) (σ 47 0) (σ 47 1) d.toNat).2.1 → src j = (lvF (tM (σ 47)) (σ 47 0) (σ 47 1) d.toNat).1 j := by
        by_cases c : d = 0
        · exact ⟨s 47 1, fun j => j, Or.inl ⟨c, rfl, fun _ => rfl⟩, by rw [c, e47]; rfl, fun j a b => by rw [c]; rfl⟩
        · have h := hlv (d - 1).toNat (by omega)
          rw [show (((d - 1).toNat : Nat) : Int) = d - 1 by omega, show (d - 1).toNat + 1 = d.toNat by omega] at h
          exact ⟨s 55 (d - 1), fun j => s 54 (10 * (d - 1) + j), Or.inr ⟨by omega, rfl, fun _ => rfl⟩, h.1, h.2⟩
      have hfe := lvF_of (T := tM (σ 47)) (R := σ 47 0) (C := σ 47 1) (d := d.toNat) (l := d) (f := src) (cnt := cnt) (by omega) hc9 hs9
      refine r_aload_n dX8_byThrowing_13 rfl rfl ?_
      refine r_iload_n dX8_byThrowing_14 rfl rfl ?_
      refine r_callV (tX8_throwsOut G s d cnt src (by rw [e47]; exact hR)  (by rw [e47]; exact hC)  (by omega)  (hs)  (by rw [hc9]; exact hlb.1)  (fun j a b => by rw [hs9 j a (by omega)]; have := hlb.2 j a (by omega); omega)  (by rw [e47]; exact hT)) dX8_byThrowing_15 svX8_throwsOut q741 sh46 (ci := 8) rfl rfl rfl ⟨Nat.le_of_ble_eq_true rfl, Nat.le_of_ble_eq_true rfl⟩ (Nat.le_of_ble_eq_true rfl) ⟨Nat.le_of_ble_eq_true rfl, Nat.le_of_ble_eq_true rfl⟩ ?_
      rintro _ u ⟨rfl, hp⟩
      rw [e47, hfe] at hp
      have hm : (d + 1).toNat = d.toNat + 1 := by omega
      refine r_iinc (lv' := [(0, Rf G 46), (1, I (d + 1))]) dX8_byThrowing_18 (Nat.le_of_ble_eq_true rfl) rfl rfl ?_
      refine r_goto (tgt := 2) dX8_byThrowing_21 (by decide) ?_
      exact ih2 _ (by omega) (d + 1) _ rfl (by omega) (fun o a b c => by rw [hp.1 o a b c]; exact hfr o a b c) (fun j a => by rw [hp.2.1 j a]; exact h46 j a) (by rw [hp.2.2.1, f9, hm]; rfl) (by intro k hk; by_cases z : (k : Int) = d; (rw [z, show k = d.toNat by omega, hp.2.2.2.1]; exact ⟨rfl, hp.2.2.2.2.2.1⟩); (have hz := hlv k (by omega); rw [hp.2.2.2.2.1 _ z]; refine ⟨hz.1, fun j a b => ?_⟩; have hl9 := (lvF_bd (T := tM (σ 47)) (R := σ 47 0) (C := σ 47 1) hR hC (k + 1) (by omega)).1; rw [hp.2.2.2.2.2.2 _ (by omega)]; exact hz.2 j a b))
  exact L2 _ 0 _ rfl (by omega) (fun _ _ _ _ => rfl) (fun _ _ => rfl) (h0) (fun k hk => by omega)
set_option maxHeartbeats 1000000 in
set_option maxRecDepth 100000 in
theorem tX8_finds (G : GT) (σ : Sg) (w : Int) (hR : 1 ≤ σ 47 0 ∧ σ 47 0 ≤ 10) (hC : 1 ≤ σ 47 1 ∧ σ 47 1 ≤ 10) (hp52 : ∀ x, -1 ≤ σ 52 x ∧ σ 52 x ≤ 9) (hw : 0 ≤ w ∧ w ≤ 2) (hT : ∀ i, 0 ≤ tM (σ 47) i ∧ tM (σ 47) i ≤ 9999) : Ct G mX8_finds 5 0 0 false SH SH [Rf G 46, I w] σ (fun rv sv => none = rv ∧ FindP σ sv w) := by
  obtain ⟨P, hP⟩ : ∃ P : Option Value → Sg → Prop, P = (fun rv sv => none = rv ∧ FindP σ sv w) := ⟨_, rfl⟩
  rw [← hP]
  refine ct_of (lv := [(0, Rf G 46), (1, I w)]) (by decide +kernel) (Nat.le_of_ble_eq_true rfl) rfl ?_
  refine r_aload_n dX8_finds_0 rfl rfl ?_
  refine r_iconst dX8_finds_1 ?_
  refine r_putI (z := 9) tyX8 dX8_finds_2 sh46 rfl (ci := 8) (j := 9) rfl (Nat.le_of_ble_eq_true rfl) rfl tyX8_ok nmX8 ixX8 q651 rfl rfl rfl ?_
  refine r_iload_n dX8_finds_5 rfl rfl ?_
  refine r_if_ne (tgt := 16) dX8_finds_6 (by decide) (by omega) (fun hb1 => ?_) (fun hb1 => ?_)
  · skip
    refine r_iload_n dX8_finds_16 rfl rfl ?_
    refine r_iconst dX8_finds_17 ?_
    refine r_icmp_ne (tgt := 28) dX8_finds_18 (by decide) (by omega) (fun hb2 => ?_) (fun hb2 => ?_)
    · skip
      refine r_aload_n dX8_finds_28 rfl rfl ?_
      refine r_callV (tX8_byThrowing G (up σ 46 9 0) (by rw [up_ne (by decide)]; exact hR)  (by rw [up_ne (by decide)]; exact hC)  (by rw [up_ne (by decide)]; exact hp52)  (up_eq)  (by rw [up_ne (by decide)]; exact hT)) dX8_finds_29 svX8_byThrowing q738 sh46 (ci := 8) rfl rfl rfl ⟨Nat.le_of_ble_eq_true rfl, Nat.le_of_ble_eq_true rfl⟩ (Nat.le_of_ble_eq_true rfl) ⟨Nat.le_of_ble_eq_true rfl, Nat.le_of_ble_eq_true rfl⟩ ?_
      rintro _ u ⟨rfl, hp⟩
      exact r_vret dX8_finds_32 rfl (by rw [hP]; exact ⟨rfl, by first | exact fd_0 hR hC hp52 (by omega) | exact fd_1 hR hC hp52 (by omega) hp | exact fd_2 (by omega) hp⟩)
    · skip
      refine r_aload_n dX8_finds_21 rfl rfl ?_
      refine r_callV (tX8_byHalves G (up σ 46 9 0)  (by rw [up_ne (by decide)]; exact hR) (by rw [up_ne (by decide)]; exact hC) (by rw [up_ne (by decide)]; exact hT)) dX8_finds_22 svX8_byHalves q732 sh46 (ci := 8) rfl rfl rfl ⟨Nat.le_of_ble_eq_true rfl, Nat.le_of_ble_eq_true rfl⟩ (Nat.le_of_ble_eq_true rfl) ⟨Nat.le_of_ble_eq_true rfl, Nat.le_of_ble_eq_true rfl⟩ ?_
      rintro _ u ⟨rfl, hp⟩
      refine r_goto (tgt := 32) dX8_finds_25 (by decide) ?_
      exact r_vret dX8_finds_32 rfl (by rw [hP]; exact ⟨rfl, by first | exact fd_0 hR hC hp52 (by omega) | exact fd_1 hR hC hp52 (by omega) hp | exact fd_2 (by omega) hp⟩)
  · skip
    refine r_aload_n dX8_finds_9 rfl rfl ?_
    refine r_callV (tX8_byAll G (up σ 46 9 0)  (by rw [up_ne (by decide)]; exact hR) (by rw [up_ne (by decide)]; exact hC) (by rw [up_ne (by decide)]; exact hT)) dX8_finds_10 svX8_byAll q726 sh46 (ci := 8) rfl rfl rfl ⟨Nat.le_of_ble_eq_true rfl, Nat.le_of_ble_eq_true rfl⟩ (Nat.le_of_ble_eq_true rfl) ⟨Nat.le_of_ble_eq_true rfl, Nat.le_of_ble_eq_true rfl⟩ ?_
    rintro _ _ ⟨rfl, rfl⟩
    refine r_goto (tgt := 32) dX8_finds_13 (by decide) ?_
    exact r_vret dX8_finds_32 rfl (by rw [hP]; exact ⟨rfl, by first | exact fd_0 hR hC hp52 (by omega) | exact fd_1 hR hC hp52 (by omega) hp | exact fd_2 (by omega) hp⟩)
