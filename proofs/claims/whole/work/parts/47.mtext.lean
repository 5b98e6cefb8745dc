
theorem fup_fup {f : Int → Int} {i a b : Int} : fup (fup f i a) i b = fup f i b := by
  funext j
  unfold fup
  by_cases e : j = i
  · rw [if_pos e, if_pos e]
  · rw [if_neg e, if_neg e, if_neg e]
/-- a reader's place: as far as the class's reader comes -/
def RdS (σ s : Sg) (q : AS) : Prop := rnF (σ 56) (σ 51) (s 46 14).toNat = some q ∧ (0 ≤ s 46 14 ∧ s 46 14 ≤ σ 46 6)
/-- nothing more can be read here -/
def Stk (σ s : Sg) (q : AS) : Prop := s 46 14 = σ 46 6 ∨ stp q (σ 51 (s 46 14)) = none
/-- no digit more can be read here -/
def EnD (σ s : Sg) (dg v : Int) : Prop := s 46 14 = σ 46 6 ∨ ¬ (48 ≤ σ 51 (s 46 14) ∧ σ 51 (s 46 14) ≤ 57) ∨ v = 0 ∨ dg = 4
def RFr (σ s : Sg) : Prop := (∀ a, a ≠ 46 → a ≠ 56 → s a = σ a) ∧ ∀ j, j ≠ 14 → j ≠ 16 → j ≠ 17 → s 46 j = σ 46 j
/-- a number read -/
def NmY (σ s sv : Sg) (r k cf : Int) : Prop := ∃ dg v, RdS σ sv (r, k, cf, dg, v, sv 56) ∧ 1 ≤ dg ∧ EnD σ sv dg v ∧ (∀ a, a ≠ 46 → a ≠ 56 → sv a = s a) ∧ ∀ j, j ≠ 14 → sv 46 j = s 46 j
theorem rd_add {σ s : Sg} {q q' : AS} {s' : Sg} (h : RdS σ s q) (hl : s 46 14 < σ 46 6) (hs : stp q (σ 51 (s 46 14)) = some q') (h' : s' 46 14 = s 46 14 + 1) : RdS σ s' q' := by
  refine ⟨?_, by have := h.2; omega⟩
  rw [h', rnF_s h.2.1 h.1, hs]
def LnE (σ s : Sg) (r cf k : Int) : Prop := ∃ dg v, RdS σ s (r, k - 1, cf, dg, v, s 56) ∧ 1 ≤ dg ∧ EnD σ s dg v ∧ (k = cf ∨ s 46 14 = σ 46 6 ∨ ¬ σ 51 (s 46 14) = 44)
def LnI (σ s : Sg) (r cf g k : Int) : Prop := (g = 1 ∧ (0 ≤ k ∧ k < cf) ∧ ∃ nu, RdS σ s (r, k, cf, 0, nu, s 56)) ∨ (g = 0 ∧ (1 ≤ k ∧ k ≤ cf) ∧ LnE σ s r cf k)
/-- a line that is not right -/
def LnN (σ s : Sg) : Prop := ∃ q : AS, RdS σ s q ∧ Stk σ s q ∧ ¬ (0 < q.2.2.2.1 ∧ (q.1 = 0 ∨ q.2.1 + 1 = q.2.2.1))
theorem ln_stuck {σ s : Sg} {r cf k : Int} (h : LnE σ s r cf k) (hk : k ≠ cf) (hr : r ≠ 0) : LnN σ s := by
  obtain ⟨dg, v, h1, h2, h3, h4⟩ := h
  refine ⟨_, h1, ?_, fun q => ?_⟩
  · unfold EnD at h3
    by_cases e : s 46 14 = σ 46 6
    · exact Or.inl e
    · right
      apply stp_n
      omega
  · have q2 := q.2
    simp only [] at q2
    omega
/-- what the whole buffer tells -/
def Tls (q : AS) : Prop := 0 < q.2.2.2.1 ∧ (q.1 = 0 ∨ q.2.1 + 1 = q.2.2.1)
def WhI (σ s : Sg) (g : Int) : Prop := (g = 1 ∧ (0 ≤ s 46 16 ∧ s 46 16 ≤ 9) ∧ ∃ nu cf, RdS σ s (s 46 16, 0, cf, 0, nu, s 56) ∧ ((s 46 16 = 0 ∧ cf = 10) ∨ (1 ≤ s 46 16 ∧ cf = s 46 17)) ∧ 1 ≤ cf ∧ cf ≤ 10) ∨
  (g = 0 ∧ ∃ q : AS, RdS σ s q ∧ Stk σ s q ∧ Tls q ∧ s 46 16 = q.1 + 1 ∧ s 46 17 = q.2.1 + 1 ∧ s 56 = q.2.2.2.2.2)
def WhP (σ sv : Sg) (b : Int) : Prop := RFr σ sv ∧ ∃ q : AS, RdS σ sv q ∧ Stk σ sv q ∧ ((b = 1 ∧ sv 46 14 = σ 46 6 ∧ Tls q ∧ sv 46 16 = q.1 + 1 ∧ sv 46 17 = q.2.1 + 1 ∧ sv 56 = q.2.2.2.2.2) ∨ (b = 0 ∧ ¬ (sv 46 14 = σ 46 6 ∧ Tls q)))
theorem wh_stk {σ s : Sg} {r cf k : Int} (h : LnE σ s r cf k) (hk : r = 0 ∨ k = cf) (hcf : r = 0 ∧ cf = 10 ∨ 1 ≤ r) (hkb : 1 ≤ k ∧ k ≤ cf) (hs : 9 ≤ r ∨ s 46 14 = σ 46 6 ∨ ¬ σ 51 (s 46 14) = 47) : ∃ q : AS, RdS σ s q ∧ Stk σ s q ∧ Tls q ∧ r + 1 = q.1 + 1 ∧ k = q.2.1 + 1 ∧ s 56 = q.2.2.2.2.2 := by
  obtain ⟨dg, v, h1, h2, h3, h4⟩ := h
  refine ⟨_, h1, ?_, ⟨by show 0 < dg; omega, by show r = 0 ∨ k - 1 + 1 = cf; omega⟩, rfl, by show k = k - 1 + 1; omega, rfl⟩
  unfold EnD at h3
  by_cases e : s 46 14 = σ 46 6
  · exact Or.inl e
  · right
    apply stp_n
    omega

set_option maxHeartbeats 1000000 in
set_option maxRecDepth 100000 in
theorem tX8_sees (G : GT) (σ : Sg) (lo hi : Int) (h : 0 ≤ σ 46 14 ∧ σ 46 14 ≤ σ 46 6 ∧ σ 46 6 ≤ 60) (hbf : ∀ i, 0 ≤ i → i < σ 46 6 → 33 ≤ σ 51 i ∧ σ 51 i ≤ 126) (hr : 0 ≤ lo ∧ lo ≤ 1000 ∧ 0 ≤ hi ∧ hi ≤ 1000) : Ct G mX8_sees 2 0 0 false SH SH [Rf G 46, I lo, I hi] σ (fun rv sv => (((σ 46 14 < σ 46 6 ∧ (lo ≤ σ 51 (σ 46 14) ∧ σ 51 (σ 46 14) ≤ hi)) ∧ some (I 1) = rv) ∨ (¬ (σ 46 14 < σ 46 6 ∧ (lo ≤ σ 51 (σ 46 14) ∧ σ 51 (σ 46 14) ≤ hi)) ∧ some (I 0) = rv)) ∧ σ = sv) := by
  obtain ⟨P, hP⟩ : ∃ P : Option Value → Sg → Prop, P = (fun rv sv => (((σ 46 14 < σ 46 6 ∧ (lo ≤ σ 51 (σ 46 14) ∧ σ 51 (σ 46 14) ≤ hi)) ∧ some (I 1) = rv) ∨ (¬ (σ 46 14 < σ 46 6 ∧ (lo ≤ σ 51 (σ 46 14) ∧ σ 51 (σ 46 14) ≤ hi)) ∧ some (I 0) = rv)) ∧ σ = sv) := ⟨_, rfl⟩
  rw [← hP]
  refine ct_of (lv := [(0, Rf G 46), (1, I lo), (2, I hi)]) (by decide +kernel) (Nat.le_of_ble_eq_true rfl) rfl ?_
  refine r_aload_n dX8_sees_0 rfl rfl ?_
  refine r_getI (z := 14) dX8_sees_1 sh46 rfl (ci := 8) (j := 14) rfl (Nat.le_of_ble_eq_true rfl) rfl ixX8 q656 rfl (hv := rfl) ?_
  refine r_aload_n dX8_sees_4 rfl rfl ?_
  refine r_getI (z := 6) dX8_sees_5 sh46 rfl (ci := 8) (j := 6) rfl (Nat.le_of_ble_eq_true rfl) rfl ixX8 q648 rfl (hv := rfl) ?_
  refine r_icmp_ge (tgt := 32) dX8_sees_8 (by decide) (by omega) (fun hb1 => ?_) (fun hb1 => ?_)
  · skip
    refine r_iconst dX8_sees_32 ?_
    exact r_zret dX8_sees_33 rfl (by first | rfl | decide) (by rw [hP]; exact ⟨by first | exact Or.inl ⟨by omega, rfl⟩ | exact Or.inr ⟨by omega, rfl⟩, rfl⟩)
  · skip
    have hb9 := hbf (σ 46 14) h.1 (by omega)
    refine r_aload_n dX8_sees_11 rfl rfl ?_
    refine r_getR (b := 51) dX8_sees_12 sh46 rfl (ci := 8) (j := 5) rfl (Nat.le_of_ble_eq_true rfl) ixX8 q647 rfl ?_
    refine r_aload_n dX8_sees_15 rfl rfl ?_
    refine r_getI (z := 14) dX8_sees_16 sh46 rfl (ci := 8) (j := 14) rfl (Nat.le_of_ble_eq_true rfl) rfl ixX8 q656 rfl (hv := rfl) ?_
    refine r_iald dX8_sees_19 sh51 (by omega) (hv := rfl) ?_
    refine r_iload_n dX8_sees_20 rfl rfl ?_
    refine r_iload_n dX8_sees_21 rfl rfl ?_
    refine r_callS (tX8_in G σ (σ 51 (σ 46 14)) lo hi (by omega)) dX8_sees_22 svX8_in q671 rfl ⟨Nat.le_of_ble_eq_true rfl, Nat.le_of_ble_eq_true rfl⟩ (Nat.le_of_ble_eq_true rfl) ⟨Nat.le_of_ble_eq_true rfl, Nat.le_of_ble_eq_true rfl⟩ ?_
    rintro _ _ ⟨⟨hq2, rfl⟩ | ⟨hq2, rfl⟩, rfl⟩
    · skip
      refine r_if_eq (tgt := 32) dX8_sees_25 (by decide) (by omega) (fun hb3 => ?_) (fun hb3 => ?_)
      · skip
        exact absurd hb3 (by omega)
      · skip
        refine r_iconst dX8_sees_28 ?_
        refine r_goto (tgt := 33) dX8_sees_29 (by decide) ?_
        exact r_zret dX8_sees_33 rfl (by first | rfl | decide) (by rw [hP]; exact ⟨by first | exact Or.inl ⟨by omega, rfl⟩ | exact Or.inr ⟨by omega, rfl⟩, rfl⟩)
    · skip
      refine r_if_eq (tgt := 32) dX8_sees_25 (by decide) (by omega) (fun hb4 => ?_) (fun hb4 => ?_)
      · skip
        refine r_iconst dX8_sees_32 ?_
        exact r_zret dX8_sees_33 rfl (by first | rfl | decide) (by rw [hP]; exact ⟨by first | exact Or.inl ⟨by omega, rfl⟩ | exact Or.inr ⟨by omega, rfl⟩, rfl⟩)
      · skip
        exact absurd hb4 (by omega)
set_option maxHeartbeats 1000000 in
set_option maxRecDepth 100000 in
theorem tX8_takes (G : GT) (σ : Sg) (c : Int) (h : 0 ≤ σ 46 14 ∧ σ 46 14 ≤ σ 46 6 ∧ σ 46 6 ≤ 60) (hbf : ∀ i, 0 ≤ i → i < σ 46 6 → 33 ≤ σ 51 i ∧ σ 51 i ≤ 126) (hr : 0 ≤ c ∧ c ≤ 1000) : Ct G mX8_takes 3 0 0 false SH SH [Rf G 46, I c] σ (fun rv sv => ((σ 46 14 < σ 46 6 ∧ (c ≤ σ 51 (σ 46 14) ∧ σ 51 (σ 46 14) ≤ c)) ∧ some (I 1) = rv ∧ up σ 46 14 (σ 46 14 + 1) = sv) ∨ (¬ (σ 46 14 < σ 46 6 ∧ (c ≤ σ 51 (σ 46 14) ∧ σ 51 (σ 46 14) ≤ c)) ∧ some (I 0) = rv ∧ σ = sv)) := by
  obtain ⟨P, hP⟩ : ∃ P : Option Value → Sg → Prop, P = (fun rv sv => ((σ 46 14 < σ 46 6 ∧ (c ≤ σ 51 (σ 46 14) ∧ σ 51 (σ 46 14) ≤ c)) ∧ some (I 1) = rv ∧ up σ 46 14 (σ 46 14 + 1) = sv) ∨ (¬ (σ 46 14 < σ 46 6 ∧ (c ≤ σ 51 (σ 46 14) ∧ σ 51 (σ 46 14) ≤ c)) ∧ some (I 0) = rv ∧ σ = sv)) := ⟨_, rfl⟩
  rw [← hP]
  refine ct_of (lv := [(0, Rf G 46), (1, I c)]) (by decide +kernel) (Nat.le_of_ble_eq_true rfl) rfl ?_
  refine r_aload_n dX8_takes_0 rfl rfl ?_
  refine r_iload_n dX8_takes_1 rfl rfl ?_
  refine r_iload_n dX8_takes_2 rfl rfl ?_
  refine r_callV (tX8_sees G σ c c (by omega) (by omega) (by omega)) dX8_takes_3 svX8_sees q785 sh46 (ci := 8) rfl rfl rfl ⟨Nat.le_of_ble_eq_true rfl, Nat.le_of_ble_eq_true rfl⟩ (Nat.le_of_ble_eq_true rfl) ⟨Nat.le_of_ble_eq_true rfl, Nat.le_of_ble_eq_true rfl⟩ ?_
  rintro _ _ ⟨⟨hq1, rfl⟩ | ⟨hq1, rfl⟩, rfl⟩
  · skip
    refine r_istore_n (lv' := [(0, Rf G 46), (1, I c), (2, I 1)]) dX8_takes_6 rfl (Nat.le_of_ble_eq_true rfl) rfl ?_
    refine r_aload_n dX8_takes_7 rfl rfl ?_
    refine r_dup dX8_takes_8 rfl ?_
    refine r_getI (z := 14) dX8_takes_9 sh46 rfl (ci := 8) (j := 14) rfl (Nat.le_of_ble_eq_true rfl) rfl ixX8 q656 rfl (hv := rfl) ?_
    refine r_iload_n dX8_takes_12 rfl rfl ?_
    refine r_if_eq (tgt := 20) dX8_takes_13 (by decide) (by omega) (fun hb2 => ?_) (fun hb2 => ?_)
    · skip
      exact absurd hb2 (by omega)
    · skip
      refine r_iconst dX8_takes_16 ?_
      refine r_goto (tgt := 21) dX8_takes_17 (by decide) ?_
      refine r_iadd dX8_takes_21 ?_
      refine r_putI (z := 14) tyX8 dX8_takes_22 sh46 rfl (ci := 8) (j := 14) rfl (Nat.le_of_ble_eq_true rfl) rfl tyX8_ok nmX8 ixX8 q656 rfl rfl rfl ?_
      refine r_iload_n dX8_takes_25 rfl rfl ?_
      exact r_zret dX8_takes_26 rfl (by first | rfl | decide) (by rw [hP]; exact by first | exact Or.inl ⟨by omega, rfl, rfl⟩ | exact Or.inr ⟨by omega, rfl, (up_id (Int.add_zero _)).symm⟩)
  · skip
    refine r_istore_n (lv' := [(0, Rf G 46), (1, I c), (2, I 0)]) dX8_takes_6 rfl (Nat.le_of_ble_eq_true rfl) rfl ?_
    refine r_aload_n dX8_takes_7 rfl rfl ?_
    refine r_dup dX8_takes_8 rfl ?_
    refine r_getI (z := 14) dX8_takes_9 sh46 rfl (ci := 8) (j := 14) rfl (Nat.le_of_ble_eq_true rfl) rfl ixX8 q656 rfl (hv := rfl) ?_
    refine r_iload_n dX8_takes_12 rfl rfl ?_
    refine r_if_eq (tgt := 20) dX8_takes_13 (by decide) (by omega) (fun hb3 => ?_) (fun hb3 => ?_)
    · skip
      refine r_iconst dX8_takes_20 ?_
      refine r_iadd dX8_takes_21 ?_
      refine r_putI (z := 14) tyX8 dX8_takes_22 sh46 rfl (ci := 8) (j := 14) rfl (Nat.le_of_ble_eq_true rfl) rfl tyX8_ok nmX8 ixX8 q656 rfl rfl rfl ?_
      refine r_iload_n dX8_takes_25 rfl rfl ?_
      exact r_zret dX8_takes_26 rfl (by first | rfl | decide) (by rw [hP]; exact by first | exact Or.inl ⟨by omega, rfl, rfl⟩ | exact Or.inr ⟨by omega, rfl, (up_id (Int.add_zero _)).symm⟩)
    · skip
      exact absurd hb3 (by omega)
set_option maxHeartbeats 1000000 in
set_option maxRecDepth 100000 in
theorem tX8_isNumber (G : GT) (σ : Sg) (ρ : Sg) (row n cf nu : Int) (hρ : ρ 51 = σ 51 ∧ ρ 46 6 = σ 46 6) (hq : RdS ρ σ (row, n, cf, 0, nu, σ 56)) (h : 0 ≤ row ∧ row ≤ 9 ∧ 0 ≤ n ∧ n < cf ∧ cf ≤ 10 ∧ 0 ≤ σ 46 6 ∧ σ 46 6 ≤ 60) (hbf : ∀ i, 0 ≤ i → i < σ 46 6 → 33 ≤ σ 51 i ∧ σ 51 i ≤ 126) : Ct G mX8_isNumber 3 0 0 false SH SH [Rf G 46, I row, I n] σ (fun rv sv => (some (I 1) = rv ∧ NmY ρ σ sv row n cf) ∨ (some (I 0) = rv ∧ σ = sv ∧ Stk ρ σ (row, n, cf, 0, nu, σ 56))) := by
  obtain ⟨P, hP⟩ : ∃ P : Option Value → Sg → Prop, P = (fun rv sv => (some (I 1) = rv ∧ NmY ρ σ sv row n cf) ∨ (some (I 0) = rv ∧ σ = sv ∧ Stk ρ σ (row, n, cf, 0, nu, σ 56))) := ⟨_, rfl⟩
  rw [← hP]
  refine ct_of (lv := [(0, Rf G 46), (1, I row), (2, I n)]) (by decide +kernel) (Nat.le_of_ble_eq_true rfl) rfl ?_
  have hq2 := hq.2
  obtain ⟨p51, p6⟩ := hρ
  rw [p6] at hq2
  refine r_aload_n dX8_isNumber_0 rfl rfl ?_
  refine r_bipush dX8_isNumber_1 rfl ?_
  refine r_bipush dX8_isNumber_3 rfl ?_
  refine r_callV (tX8_sees G σ 48 57 (by omega) (by omega) (by omega)) dX8_isNumber_5 svX8_sees q785 sh46 (ci := 8) rfl rfl rfl ⟨Nat.le_of_ble_eq_true rfl, Nat.le_of_ble_eq_true rfl⟩ (Nat.le_of_ble_eq_true rfl) ⟨Nat.le_of_ble_eq_true rfl, Nat.le_of_ble_eq_true rfl⟩ ?_
  rintro _ _ ⟨⟨hq1, rfl⟩ | ⟨hq1, rfl⟩, rfl⟩
  · skip
    refine r_if_ne (tgt := 13) dX8_isNumber_8 (by decide) (by omega) (fun hb2 => ?_) (fun hb2 => ?_)
    · skip
      have hb1 := hbf (σ 46 14) (by omega) (by omega)
      have hst : stp (row, n, cf, 0, nu, σ 56) (ρ 51 (σ 46 14)) = some (row, n, cf, 1, σ 51 (σ 46 14) - 48, fup (σ 56) (10 * row + n) (σ 51 (σ 46 14) - 48)) := by rw [p51, stp_d (by omega) (by omega)]; rfl
      refine r_aload_n dX8_isNumber_13 rfl rfl ?_
      refine r_getR (b := 51) dX8_isNumber_14 sh46 rfl (ci := 8) (j := 5) rfl (Nat.le_of_ble_eq_true rfl) ixX8 q647 rfl ?_
      refine r_aload_n dX8_isNumber_17 rfl rfl ?_
      refine r_getI (z := 14) dX8_isNumber_18 sh46 rfl (ci := 8) (j := 14) rfl (Nat.le_of_ble_eq_true rfl) rfl ixX8 q656 rfl (hv := rfl) ?_
      refine r_iald dX8_isNumber_21 sh51 (by omega) (hv := rfl) ?_
      refine r_bipush dX8_isNumber_22 rfl ?_
      refine r_isub dX8_isNumber_24 ?_
      refine r_istore_n (lv' := [(0, Rf G 46), (1, I row), (2, I n), (3, I ((σ 51 (σ 46 14)) - 48))]) dX8_isNumber_25 rfl (Nat.le_of_ble_eq_true rfl) rfl ?_
      refine r_aload_n dX8_isNumber_26 rfl rfl ?_
      refine r_dup dX8_isNumber_27 rfl ?_
      refine r_getI (z := 14) dX8_isNumber_28 sh46 rfl (ci := 8) (j := 14) rfl (Nat.le_of_ble_eq_true rfl) rfl ixX8 q656 rfl (hv := rfl) ?_
      refine r_iconst dX8_isNumber_31 ?_
      refine r_iadd dX8_isNumber_32 ?_
      refine r_putI (z := 14) tyX8 dX8_isNumber_33 sh46 rfl (ci := 8) (j := 14) rfl (Nat.le_of_ble_eq_true rfl) rfl tyX8_ok nmX8 ixX8 q656 rfl rfl rfl ?_
      have L36 : ∀ (mm : Nat) (dg v : Int) (s : Sg), (5 - dg).toNat = mm → (hd : (dg = 1 ∧ 0 ≤ v ∧ v ≤ 9) ∨ (dg = 2 ∧ 10 ≤ v ∧ v ≤ 99) ∨ (dg = 3 ∧ 100 ≤ v ∧ v ≤ 999) ∨ (dg = 4 ∧ 1000 ≤ v ∧ v ≤ 9999)) → (hfr : ∀ a, a ≠ 46 → s a = σ a) → (h46 : ∀ j, j ≠ 14 → s 46 j = σ 46 j) → (hs : RdS ρ s (row, n, cf, dg, v, fup (σ 56) (10 * row + n) v)) → Rn G mX8_isNumber (rmD 3 0 0) E0 (Zn G false SH P 0 0) false SH 0 0 36 [(0, Rf G 46), (1, I row), (2, I n), (3, I v)] [] s := by
        intro mm
        induction mm using Nat.strongRecOn with
        | _ mm ih36 =>
        intro dg v s hm36 hd hfr h46 hs
        have hs2 := hs.2
        rw [p6] at hs2
        have e51 : s 51 = σ 51 := hfr 51 (by decide)
        have e6 : s 46 6 = σ 46 6 := h46 6 (by decide)
        refine r_iload_n dX8_isNumber_36 rfl rfl ?_
        refine r_if_le (tgt := 89) dX8_isNumber_37 (by decide) (by omega) (fun hb3 => ?_) (fun hb3 => ?_)
        · skip
          refine r_aload_n dX8_isNumber_89 rfl rfl ?_
          refine r_getR (b := 56) dX8_isNumber_90 sh46 rfl (ci := 8) (j := 15) rfl (Nat.le_of_ble_eq_true rfl) ixX8 q657 rfl ?_
          refine r_bipush dX8_isNumber_93 rfl ?_
          refine r_iload_n dX8_isNumber_95 rfl rfl ?_
          refine r_imul dX8_isNumber_96 ?_
          refine r_iload_n dX8_isNumber_97 rfl rfl ?_
          refine r_iadd dX8_isNumber_98 ?_
          refine r_iload_n dX8_isNumber_99 rfl rfl ?_
          refine r_iast dX8_isNumber_100 sh56 (by omega) ?_
          refine r_iconst dX8_isNumber_101 ?_
          exact r_zret dX8_isNumber_102 rfl (by first | rfl | decide) (by rw [hP]; exact Or.inl ⟨rfl, dg, v, ⟨by rw [up_ne (by decide), show up s 56 (10 * row + n) v 56 = fup (σ 56) (10 * row + n) v by rw [up_row, hfr 56 (by decide)]; rfl]; exact hs.1, by rw [up_ne (by decide)]; exact hs.2⟩, by omega, by unfold EnD; rw [up_ne (by decide), p51, p6]; omega, fun a p q => by rw [up_ne q]; exact hfr a p, fun j p => by rw [up_ne (by decide)]; exact h46 j p⟩)
        · skip
          refine r_iload_n dX8_isNumber_40 rfl rfl ?_
          refine r_sipush dX8_isNumber_41 rfl ?_
          refine r_icmp_ge (tgt := 89) dX8_isNumber_44 (by decide) (by omega) (fun hb4 => ?_) (fun hb4 => ?_)
          · skip
            refine r_aload_n dX8_isNumber_89 rfl rfl ?_
            refine r_getR (b := 56) dX8_isNumber_90 sh46 rfl (ci := 8) (j := 15) rfl (Nat.le_of_ble_eq_true rfl) ixX8 q657 rfl ?_
            refine r_bipush dX8_isNumber_93 rfl ?_
            refine r_iload_n dX8_isNumber_95 rfl rfl ?_
            refine r_imul dX8_isNumber_96 ?_
            refine r_iload_n dX8_isNumber_97 rfl rfl ?_
            refine r_iadd dX8_isNumber_98 ?_
            refine r_iload_n dX8_isNumber_99 rfl rfl ?_
            refine r_iast dX8_isNumber_100 sh56 (by omega) ?_
            refine r_iconst dX8_isNumber_101 ?_
            exact r_zret dX8_isNumber_102 rfl (by first | rfl | decide) (by rw [hP]; exact Or.inl ⟨rfl, dg, v, ⟨by rw [up_ne (by decide), show up s 56 (10 * row + n) v 56 = fup (σ 56) (10 * row + n) v by rw [up_row, hfr 56 (by decide)]; rfl]; exact hs.1, by rw [up_ne (by decide)]; exact hs.2⟩, by omega, by unfold EnD; rw [up_ne (by decide), p51, p6]; omega, fun a p q => by rw [up_ne q]; exact hfr a p, fun j p => by rw [up_ne (by decide)]; exact h46 j p⟩)
          · skip
            refine r_aload_n dX8_isNumber_47 rfl rfl ?_
            refine r_bipush dX8_isNumber_48 rfl ?_
            refine r_bipush dX8_isNumber_50 rfl ?_
            refine r_callV (tX8_sees G s 48 57 (by omega) (by rw [e51, e6]; exact hbf) (by omega)) dX8_isNumber_52 svX8_sees q785 sh46 (ci := 8) rfl rfl rfl ⟨Nat.le_of_ble_eq_true rfl, Nat.le_of_ble_eq_true rfl⟩ (Nat.le_of_ble_eq_true rfl) ⟨Nat.le_of_ble_eq_true rfl, Nat.le_of_ble_eq_true rfl⟩ ?_
            rintro _ _ ⟨⟨hq5, rfl⟩ | ⟨hq5, rfl⟩, rfl⟩
            · skip
              rw [e51, e6] at hq5
              refine r_if_eq (tgt := 89) dX8_isNumber_55 (by decide) (by omega) (fun hb6 => ?_) (fun hb6 => ?_)
              · skip
                exact absurd hb6 (by omega)
              · skip
                have hb2 := hbf (s 46 14) (by omega) (by omega)
                have hst : stp (row, n, cf, dg, v, fup (σ 56) (10 * row + n) v) (ρ 51 (s 46 14)) = some (row, n, cf, dg + 1, 10 * v + σ 51 (s 46 14) - 48, fup (σ 56) (10 * row + n) (10 * v + σ 51 (s 46 14) - 48)) := by
                  rw [p51, stp_d (by omega) (by omega), fup_fup]
                  have e9 : nnA dg v (σ 51 (s 46 14) - 48) = 10 * v + σ 51 (s 46 14) - 48 := by unfold nnA; rw [if_neg (by omega)]; omega
                  rw [e9]
                refine r_bipush dX8_isNumber_58 rfl ?_
                refine r_iload_n dX8_isNumber_60 rfl rfl ?_
                refine r_imul dX8_isNumber_61 ?_
                refine r_aload_n dX8_isNumber_62 rfl rfl ?_
                refine r_getR (b := 51) dX8_isNumber_63 sh46 rfl (ci := 8) (j := 5) rfl (Nat.le_of_ble_eq_true rfl) ixX8 q647 rfl ?_
                refine r_aload_n dX8_isNumber_66 rfl rfl ?_
                refine r_getI (z := 14) dX8_isNumber_67 sh46 rfl (ci := 8) (j := 14) rfl (Nat.le_of_ble_eq_true rfl) rfl ixX8 q656 rfl (hv := rfl) ?_
                refine r_iald dX8_isNumber_70 sh51 (by omega) (hv := congrFun (hfr 51 (by decide)) (s 46 14)) ?_
                refine r_iadd dX8_isNumber_71 ?_
                refine r_bipush dX8_isNumber_72 rfl ?_
                refine r_isub dX8_isNumber_74 ?_
                refine r_istore_n (lv' := [(0, Rf G 46), (1, I row), (2, I n), (3, I (((10 * v) + (σ 51 (s 46 14))) - 48))]) dX8_isNumber_75 rfl (Nat.le_of_ble_eq_true rfl) rfl ?_
                refine r_aload_n dX8_isNumber_76 rfl rfl ?_
                refine r_dup dX8_isNumber_77 rfl ?_
                refine r_getI (z := 14) dX8_isNumber_78 sh46 rfl (ci := 8) (j := 14) rfl (Nat.le_of_ble_eq_true rfl) rfl ixX8 q656 rfl (hv := rfl) ?_
                refine r_iconst dX8_isNumber_81 ?_
                refine r_iadd dX8_isNumber_82 ?_
                refine r_putI (z := 14) tyX8 dX8_isNumber_83 sh46 rfl (ci := 8) (j := 14) rfl (Nat.le_of_ble_eq_true rfl) rfl tyX8_ok nmX8 ixX8 q656 rfl rfl rfl ?_
                refine r_goto (tgt := 36) dX8_isNumber_86 (by decide) ?_
                exact ih36 _ (by omega) (dg + 1) _ _ rfl (by omega) (fun a ha => by rw [up_ne ha]; exact hfr a ha) (fun j hj => by rw [up_nj hj]; exact h46 j hj) (rd_add hs (by omega) hst up_eq)
            · skip
              rw [e51, e6] at hq5
              refine r_if_eq (tgt := 89) dX8_isNumber_55 (by decide) (by omega) (fun hb7 => ?_) (fun hb7 => ?_)
              · skip
                refine r_aload_n dX8_isNumber_89 rfl rfl ?_
                refine r_getR (b := 56) dX8_isNumber_90 sh46 rfl (ci := 8) (j := 15) rfl (Nat.le_of_ble_eq_true rfl) ixX8 q657 rfl ?_
                refine r_bipush dX8_isNumber_93 rfl ?_
                refine r_iload_n dX8_isNumber_95 rfl rfl ?_
                refine r_imul dX8_isNumber_96 ?_
                refine r_iload_n dX8_isNumber_97 rfl rfl ?_
                refine r_iadd dX8_isNumber_98 ?_
                refine r_iload_n dX8_isNumber_99 rfl rfl ?_
                refine r_iast dX8_isNumber_100 sh56 (by omega) ?_
                refine r_iconst dX8_isNumber_101 ?_
                exact r_zret dX8_isNumber_102 rfl (by first | rfl | decide) (by rw [hP]; exact Or.inl ⟨rfl, dg, v, ⟨by rw [up_ne (by decide), show up s 56 (10 * row + n) v 56 = fup (σ 56) (10 * row + n) v by rw [up_row, hfr 56 (by decide)]; rfl]; exact hs.1, by rw [up_ne (by decide)]; exact hs.2⟩, by omega, by unfold EnD; rw [up_ne (by decide), p51, p6]; omega, fun a p q => by rw [up_ne q]; exact hfr a p, fun j p => by rw [up_ne (by decide)]; exact h46 j p⟩)
              · skip
                exact absurd hb7 (by omega)
      exact L36 _ 1 _ _ rfl (by omega) (fun a ha => up_ne ha) (fun j hj => up_nj hj) (rd_add hq (by omega) hst up_eq)
    · skip
      exact absurd hb2 (by omega)
  · skip
    refine r_if_ne (tgt := 13) dX8_isNumber_8 (by decide) (by omega) (fun hb8 => ?_) (fun hb8 => ?_)
    · skip
      exact absurd hb8 (by omega)
    · skip
      refine r_iconst dX8_isNumber_11 ?_
      exact r_zret dX8_isNumber_12 rfl (by first | rfl | decide) (by rw [hP]; exact Or.inr ⟨rfl, rfl, by unfold Stk; rw [p6]; by_cases e : σ 46 14 = σ 46 6; exact Or.inl e; exact Or.inr (stp_n (by rw [p51]; omega))⟩)

theorem ln_go {ρ w : Sg} {row k cf dg v : Int} (w1 : RdS ρ w (row, k, cf, dg, v, w 56)) (wd : 1 ≤ dg) (hk : 0 ≤ k ∧ k + 1 < cf) (hl : w 46 14 < ρ 46 6) (hc : ρ 51 (w 46 14) = 44) : LnI ρ (up w 46 14 (w 46 14 + 1)) row cf 1 (k + 1) := by
  refine Or.inl ⟨rfl, by omega, v, ?_⟩
  rw [up_ne (by decide)]
  exact rd_add w1 hl (stp_c hc (by omega)) up_eq
theorem ln_no {ρ w : Sg} {row k cf dg v : Int} (w1 : RdS ρ w (row, k, cf, dg, v, w 56)) (wd : 1 ≤ dg) (wE : EnD ρ w dg v) (hk : 0 ≤ k ∧ k + 1 ≤ cf) (hn : k + 1 = cf ∨ w 46 14 = ρ 46 6 ∨ ¬ ρ 51 (w 46 14) = 44) : LnI ρ w row cf 0 (k + 1) := by
  refine Or.inr ⟨rfl, by omega, dg, v, ?_, wd, wE, hn⟩
  rw [show k + 1 - 1 = k by omega]
  exact w1
theorem rd_c {σ w x : Sg} {q : AS} (h : RdS σ w q) (e : x 46 14 = w 46 14) : RdS σ x q := by unfold RdS; rw [e]; exact h
theorem wh_go {σ w x : Sg} {r cf k : Int} (hE : LnE σ w r cf k) (hrk : r = 0 ∨ k = cf) (hr : 0 ≤ r ∧ r + 1 < 10) (hk : 1 ≤ k ∧ k ≤ cf ∧ cf ≤ 10) (x14 : x 46 14 = w 46 14) (x16 : x 46 16 = r + 1) (x17 : x 46 17 = k) (x56 : x 56 = w 56) (hl : w 46 14 < σ 46 6) (hc : σ 51 (w 46 14) = 47) : WhI σ (up x 46 14 (x 46 14 + 1)) 1 := by
  obtain ⟨dg, v, h1, h2, h3, h4⟩ := hE
  refine Or.inl ⟨rfl, by rw [up_nj (by decide), x16]; omega, v, k, ?_, Or.inr ⟨by rw [up_nj (by decide), x16]; omega, by rw [up_nj (by decide), x17]⟩, by omega, by omega⟩
  rw [up_nj (by decide), x16, up_ne (by decide), x56]
  have h := stp_s (r := r) (co := k - 1) (cf := cf) (dg := dg) (nu := v) (g := w 56) hc (by omega)
  rw [show k - 1 + 1 = k by omega] at h
  exact rd_add h1 hl h (by rw [up_eq, x14])
theorem wh_no {σ w x : Sg} {r cf k : Int} (hE : LnE σ w r cf k) (hrk : r = 0 ∨ k = cf) (hcf : (r = 0 ∧ cf = 10) ∨ 1 ≤ r) (hk : 1 ≤ k ∧ k ≤ cf) (x14 : x 46 14 = w 46 14) (x16 : x 46 16 = r + 1) (x17 : x 46 17 = k) (x56 : x 56 = w 56) (hs : 9 ≤ r ∨ w 46 14 = σ 46 6 ∨ ¬ σ 51 (w 46 14) = 47) : WhI σ x 0 := by
  obtain ⟨q, q1, q2, q3, q4, q5, q6⟩ := wh_stk hE hrk hcf hk hs
  refine Or.inr ⟨rfl, q, rd_c q1 x14, ?_, q3, by rw [x16]; exact q4, by rw [x17]; exact q5, by rw [x56]; exact q6⟩
  unfold Stk
  rw [x14]
  exact q2
theorem wh_lnn {σ s w : Sg} (h : LnN σ w) (w2 : ∀ a, a ≠ 46 → a ≠ 56 → w a = s a) (w3 : ∀ j, j ≠ 14 → w 46 j = s 46 j) (hr : RFr σ s) : WhP σ w 0 := by
  obtain ⟨q, q1, q2, q3⟩ := h
  exact ⟨⟨fun a p r => by rw [w2 a p r]; exact hr.1 a p r, fun j p r t => by rw [w3 j p]; exact hr.2 j p r t⟩, q, q1, q2, Or.inr ⟨rfl, fun z => q3 z.2⟩⟩
theorem wh_y {σ s : Sg} {g : Int} (hI : WhI σ s g) (hg : g = 0) (hr : RFr σ s) (he : s 46 14 = σ 46 6) : WhP σ s 1 := by
  rcases hI with q | ⟨-, q, q1, q2, q3, q4, q5, q6⟩
  · exact absurd q.1 (by omega)
  · exact ⟨hr, q, q1, q2, Or.inl ⟨rfl, he, q3, q4, q5, q6⟩⟩
theorem wh_n {σ s : Sg} {g : Int} (hI : WhI σ s g) (hg : g = 0) (hr : RFr σ s) (he : ¬ s 46 14 = σ 46 6) : WhP σ s 0 := by
  rcases hI with q | ⟨-, q, q1, q2, q3, q4, q5, q6⟩
  · exact absurd q.1 (by omega)
  · exact ⟨hr, q, q1, q2, Or.inr ⟨rfl, fun z => he z.1⟩⟩

set_option maxHeartbeats 1000000 in
set_option maxRecDepth 100000 in
theorem tX8_isLine (G : GT) (σ : Sg) (ρ : Sg) (row cf nu : Int) (hρ : ρ 51 = σ 51 ∧ ρ 46 6 = σ 46 6) (hq : RdS ρ σ (row, 0, cf, 0, nu, σ 56)) (hc : (row = 0 ∧ cf = 10) ∨ (1 ≤ row ∧ cf = σ 46 17)) (h : 0 ≤ row ∧ row ≤ 9 ∧ 1 ≤ cf ∧ cf ≤ 10 ∧ 0 ≤ σ 46 6 ∧ σ 46 6 ≤ 60) (hbf : ∀ i, 0 ≤ i → i < σ 46 6 → 33 ≤ σ 51 i ∧ σ 51 i ≤ 126) : Ct G mX8_isLine 4 0 0 false SH SH [Rf G 46, I row] σ (fun rv sv => ((∀ a, a ≠ 46 → a ≠ 56 → sv a = σ a) ∧ ∀ j, j ≠ 14 → sv 46 j = σ 46 j) ∧ ((some (I (-1)) = rv ∧ LnN ρ sv) ∨ ∃ k, (1 ≤ k ∧ k ≤ cf) ∧ some (I k) = rv ∧ (row = 0 ∨ k = cf) ∧ LnE ρ sv row cf k)) := by
  obtain ⟨P, hP⟩ : ∃ P : Option Value → Sg → Prop, P = (fun rv sv => ((∀ a, a ≠ 46 → a ≠ 56 → sv a = σ a) ∧ ∀ j, j ≠ 14 → sv 46 j = σ 46 j) ∧ ((some (I (-1)) = rv ∧ LnN ρ sv) ∨ ∃ k, (1 ≤ k ∧ k ≤ cf) ∧ some (I k) = rv ∧ (row = 0 ∨ k = cf) ∧ LnE ρ sv row cf k)) := ⟨_, rfl⟩
  rw [← hP]
  refine ct_of (lv := [(0, Rf G 46), (1, I row)]) (by decide +kernel) (Nat.le_of_ble_eq_true rfl) rfl ?_
  obtain ⟨p51, p6⟩ := hρ
  refine r_iload_n dX8_isLine_0 rfl rfl ?_
  refine r_if_ne (tgt := 9) dX8_isLine_1 (by decide) (by omega) (fun hb1 => ?_) (fun hb1 => ?_)
  · skip
    refine r_aload_n dX8_isLine_9 rfl rfl ?_
    refine r_getI (z := 17) dX8_isLine_10 sh46 rfl (ci := 8) (j := 17) rfl (Nat.le_of_ble_eq_true rfl) rfl ixX8 q659 rfl (hv := rfl) ?_
    refine r_istore_n (lv' := [(0, Rf G 46), (1, I row), (2, I (σ 46 17))]) dX8_isLine_13 rfl (Nat.le_of_ble_eq_true rfl) rfl ?_
    have hcf9 : σ 46 17 = cf := by omega
    refine r_iconst dX8_isLine_14 ?_
    refine r_istore_n (lv' := [(0, Rf G 46), (1, I row), (2, I (σ 46 17)), (3, I 0)]) dX8_isLine_15 rfl (Nat.le_of_ble_eq_true rfl) rfl ?_
    refine r_iconst dX8_isLine_16 ?_
    refine r_istore (lv' := [(0, Rf G 46), (1, I row), (2, I (σ 46 17)), (3, I 0), (4, I 1)]) dX8_isLine_17 (Nat.le_of_ble_eq_true rfl) rfl ?_
    have L19 : ∀ (mm : Nat) (c9 k g : Int) (s : Sg), (cf + 1 - k).toNat = mm → (hc9 : c9 = cf) → (hfr : ∀ a, a ≠ 46 → a ≠ 56 → s a = σ a) → (h46 : ∀ j, j ≠ 14 → s 46 j = σ 46 j) → (hI : LnI ρ s row cf g k) → Rn G mX8_isLine (rmD 4 0 0) E0 (Zn G false SH P 0 0) false SH 0 0 19 [(0, Rf G 46), (1, I row), (2, I c9), (3, I k), (4, I g)] [] s := by
      intro mm
      induction mm using Nat.strongRecOn with
      | _ mm ih19 =>
      intro c9 k g s hm19 hc9 hfr h46 hI
      have e51 : s 51 = σ 51 := hfr 51 (by decide) (by decide)
      have e6 : s 46 6 = σ 46 6 := h46 6 (by decide)
      have hgk : (g = 1 ∧ 0 ≤ k ∧ k < cf) ∨ (g = 0 ∧ 1 ≤ k ∧ k ≤ cf) := by rcases hI with q | q; exact Or.inl ⟨q.1, q.2.1⟩; exact Or.inr ⟨q.1, q.2.1⟩
      refine r_iload dX8_isLine_19 rfl ?_
      refine r_if_eq (tgt := 62) dX8_isLine_21 (by decide) (by omega) (fun hb2 => ?_) (fun hb2 => ?_)
      · skip
        have hE : LnE ρ s row cf k := by rcases hI with q | q; exact absurd q.1 (by omega); exact q.2.2
        refine r_iload_n dX8_isLine_62 rfl rfl ?_
        refine r_if_le (tgt := 75) dX8_isLine_63 (by decide) (by omega) (fun hb3 => ?_) (fun hb3 => ?_)
        · skip
          refine r_iload_n dX8_isLine_75 rfl rfl ?_
          exact r_iret dX8_isLine_76 rfl (by rw [hP]; exact ⟨⟨hfr, h46⟩, by first | exact Or.inl ⟨rfl, ln_stuck hE (by omega) (by omega)⟩ | exact Or.inr ⟨k, by omega, rfl, by omega, hE⟩⟩)
        · skip
          refine r_iload_n dX8_isLine_66 rfl rfl ?_
          refine r_iload_n dX8_isLine_67 rfl rfl ?_
          refine r_icmp_ge (tgt := 75) dX8_isLine_68 (by decide) (by omega) (fun hb4 => ?_) (fun hb4 => ?_)
          · skip
            refine r_iload_n dX8_isLine_75 rfl rfl ?_
            exact r_iret dX8_isLine_76 rfl (by rw [hP]; exact ⟨⟨hfr, h46⟩, by first | exact Or.inl ⟨rfl, ln_stuck hE (by omega) (by omega)⟩ | exact Or.inr ⟨k, by omega, rfl, by omega, hE⟩⟩)
          · skip
            refine r_iconst dX8_isLine_71 ?_
            refine r_goto (tgt := 76) dX8_isLine_72 (by decide) ?_
            exact r_iret dX8_isLine_76 rfl (by rw [hP]; exact ⟨⟨hfr, h46⟩, by first | exact Or.inl ⟨rfl, ln_stuck hE (by omega) (by omega)⟩ | exact Or.inr ⟨k, by omega, rfl, by omega, hE⟩⟩)
      · skip
        obtain ⟨nu2, hq2⟩ : ∃ nu, RdS ρ s (row, k, cf, 0, nu, s 56) := by rcases hI with q | q; exact q.2.2; exact absurd q.1 (by omega)
        refine r_aload_n dX8_isLine_24 rfl rfl ?_
        refine r_iload_n dX8_isLine_25 rfl rfl ?_
        refine r_iload_n dX8_isLine_26 rfl rfl ?_
        refine r_callV (tX8_isNumber G s ρ row k cf nu2 (by rw [e51, e6]; exact ⟨p51, p6⟩) (hq2) (by rw [e6]; omega) (by rw [e51, e6]; exact hbf)) dX8_isLine_27 svX8_isNumber q782 sh46 (ci := 8) rfl rfl rfl ⟨Nat.le_of_ble_eq_true rfl, Nat.le_of_ble_eq_true rfl⟩ (Nat.le_of_ble_eq_true rfl) ⟨Nat.le_of_ble_eq_true rfl, Nat.le_of_ble_eq_true rfl⟩ ?_
        rintro _ w (⟨rfl, hw⟩ | ⟨rfl, rfl, hw⟩)
        · skip
          obtain ⟨dg, v9, w1, wd, wE, w2, w3⟩ := hw
          have f51 : w 51 = σ 51 := by rw [w2 51 (by decide) (by decide)]; exact e51
          have f6 : w 46 6 = σ 46 6 := by rw [w3 6 (by decide)]; exact e6
          have w12 := w1.2
          rw [p6] at w12
          refine r_if_ne (tgt := 35) dX8_isLine_30 (by decide) (by omega) (fun hb5 => ?_) (fun hb5 => ?_)
          · skip
            refine r_iinc (lv' := [(0, Rf G 46), (1, I row), (2, I c9), (3, I (k + 1)), (4, I g)]) dX8_isLine_35 (Nat.le_of_ble_eq_true rfl) rfl rfl ?_
            refine r_iload_n dX8_isLine_38 rfl rfl ?_
            refine r_iload_n dX8_isLine_39 rfl rfl ?_
            refine r_icmp_ge (tgt := 56) dX8_isLine_40 (by decide) (by omega) (fun hb6 => ?_) (fun hb6 => ?_)
            · skip
              refine r_iconst dX8_isLine_56 ?_
              refine r_istore (lv' := [(0, Rf G 46), (1, I row), (2, I c9), (3, I (k + 1)), (4, I 0)]) dX8_isLine_57 (Nat.le_of_ble_eq_true rfl) rfl ?_
              refine r_goto (tgt := 19) dX8_isLine_59 (by decide) ?_
              exact ih19 _ (by omega) _ _ _ _ rfl (hc9) (by first | (intro a p q; rw [up_ne p, w2 a p q]; exact hfr a p q) | (intro a p q; rw [w2 a p q]; exact hfr a p q)) (by first | (intro j p; rw [up_nj p, w3 j p]; exact h46 j p) | (intro j p; rw [w3 j p]; exact h46 j p)) (by first | exact ln_go w1 wd (by omega) (by rw [p6]; omega) (by rw [p51]; omega) | exact ln_no w1 wd wE (by omega) (by rw [p51, p6]; omega))
            · skip
              refine r_aload_n dX8_isLine_43 rfl rfl ?_
              refine r_bipush dX8_isLine_44 rfl ?_
              refine r_callV (tX8_takes G w 44 (by rw [f6]; omega) (by rw [f51, f6]; exact hbf) (by omega)) dX8_isLine_46 svX8_takes q788 sh46 (ci := 8) rfl rfl rfl ⟨Nat.le_of_ble_eq_true rfl, Nat.le_of_ble_eq_true rfl⟩ (Nat.le_of_ble_eq_true rfl) ⟨Nat.le_of_ble_eq_true rfl, Nat.le_of_ble_eq_true rfl⟩ ?_
              rintro _ _ (⟨hq7, rfl, rfl⟩ | ⟨hq7, rfl, rfl⟩)
              · skip
                rw [f51, f6] at hq7
                refine r_if_eq (tgt := 56) dX8_isLine_49 (by decide) (by omega) (fun hb8 => ?_) (fun hb8 => ?_)
                · skip
                  exact absurd hb8 (by omega)
                · skip
                  refine r_iconst dX8_isLine_52 ?_
                  refine r_goto (tgt := 57) dX8_isLine_53 (by decide) ?_
                  refine r_istore (lv' := [(0, Rf G 46), (1, I row), (2, I c9), (3, I (k + 1)), (4, I 1)]) dX8_isLine_57 (Nat.le_of_ble_eq_true rfl) rfl ?_
                  refine r_goto (tgt := 19) dX8_isLine_59 (by decide) ?_
                  exact ih19 _ (by omega) _ _ _ _ rfl (hc9) (by first | (intro a p q; rw [up_ne p, w2 a p q]; exact hfr a p q) | (intro a p q; rw [w2 a p q]; exact hfr a p q)) (by first | (intro j p; rw [up_nj p, w3 j p]; exact h46 j p) | (intro j p; rw [w3 j p]; exact h46 j p)) (by first | exact ln_go w1 wd (by omega) (by rw [p6]; omega) (by rw [p51]; omega) | exact ln_no w1 wd wE (by omega) (by rw [p51, p6]; omega))
              · skip
                rw [f51, f6] at hq7
                refine r_if_eq (tgt := 56) dX8_isLine_49 (by decide) (by omega) (fun hb9 => ?_) (fun hb9 => ?_)
                · skip
                  refine r_iconst dX8_isLine_56 ?_
                  refine r_istore (lv' := [(0, Rf G 46), (1, I row), (2, I c9), (3, I (k + 1)), (4, I 0)]) dX8_isLine_57 (Nat.le_of_ble_eq_true rfl) rfl ?_
                  refine r_goto (tgt := 19) dX8_isLine_59 (by decide) ?_
                  exact ih19 _ (by omega) _ _ _ _ rfl (hc9) (by first | (intro a p q; rw [up_ne p, w2 a p q]; exact hfr a p q) | (intro a p q; rw [w2 a p q]; exact hfr a p q)) (by first | (intro j p; rw [up_nj p, w3 j p]; exact h46 j p) | (intro j p; rw [w3 j p]; exact h46 j p)) (by first | exact ln_go w1 wd (by omega) (by rw [p6]; omega) (by rw [p51]; omega) | exact ln_no w1 wd wE (by omega) (by rw [p51, p6]; omega))
                · skip
                  exact absurd hb9 (by omega)
          · skip
            exact absurd hb5 (by omega)
        · skip
          refine r_if_ne (tgt := 35) dX8_isLine_30 (by decide) (by omega) (fun hb10 => ?_) (fun hb10 => ?_)
          · skip
            exact absurd hb10 (by omega)
          · skip
            refine r_iconst dX8_isLine_33 ?_
            exact r_iret dX8_isLine_34 rfl (by rw [hP]; exact ⟨⟨hfr, h46⟩, Or.inl ⟨rfl, _, hq2, hw, fun q => by have := q.1; simp only [] at this; omega⟩⟩)
    exact L19 _ _ 0 1 _ rfl (hcf9) (fun _ _ _ => rfl) (fun _ _ => rfl) (Or.inl ⟨rfl, by omega, nu, hq⟩)
  · skip
    refine r_bipush dX8_isLine_4 rfl ?_
    refine r_goto (tgt := 13) dX8_isLine_6 (by decide) ?_
    refine r_istore_n (lv' := [(0, Rf G 46), (1, I row), (2, I 10)]) dX8_isLine_13 rfl (Nat.le_of_ble_eq_true rfl) rfl ?_
    have hcf9 : 10 = cf := by omega
    refine r_iconst dX8_isLine_14 ?_
    refine r_istore_n (lv' := [(0, Rf G 46), (1, I row), (2, I 10), (3, I 0)]) dX8_isLine_15 rfl (Nat.le_of_ble_eq_true rfl) rfl ?_
    refine r_iconst dX8_isLine_16 ?_
    refine r_istore (lv' := [(0, Rf G 46), (1, I row), (2, I 10), (3, I 0), (4, I 1)]) dX8_isLine_17 (Nat.le_of_ble_eq_true rfl) rfl ?_
    have L19 : ∀ (mm : Nat) (c9 k g : Int) (s : Sg), (cf + 1 - k).toNat = mm → (hc9 : c9 = cf) → (hfr : ∀ a, a ≠ 46 → a ≠ 56 → s a = σ a) → (h46 : ∀ j, j ≠ 14 → s 46 j = σ 46 j) → (hI : LnI ρ s row cf g k) → Rn G mX8_isLine (rmD 4 0 0) E0 (Zn G false SH P 0 0) false SH 0 0 19 [(0, Rf G 46), (1, I row), (2, I c9), (3, I k), (4, I g)] [] s := by
      intro mm
      induction mm using Nat.strongRecOn with
      | _ mm ih19 =>
      intro c9 k g s hm19 hc9 hfr h46 hI
      have e51 : s 51 = σ 51 := hfr 51 (by decide) (by decide)
      have e6 : s 46 6 = σ 46 6 := h46 6 (by decide)
      have hgk : (g = 1 ∧ 0 ≤ k ∧ k < cf) ∨ (g = 0 ∧ 1 ≤ k ∧ k ≤ cf) := by rcases hI with q | q; exact Or.inl ⟨q.1, q.2.1⟩; exact Or.inr ⟨q.1, q.2.1⟩
      refine r_iload dX8_isLine_19 rfl ?_
      refine r_if_eq (tgt := 62) dX8_isLine_21 (by decide) (by omega) (fun hb11 => ?_) (fun hb11 => ?_)
      · skip
        have hE : LnE ρ s row cf k := by rcases hI with q | q; exact absurd q.1 (by omega); exact q.2.2
        refine r_iload_n dX8_isLine_62 rfl rfl ?_
        refine r_if_le (tgt := 75) dX8_isLine_63 (by decide) (by omega) (fun hb12 => ?_) (fun hb12 => ?_)
        · skip
          refine r_iload_n dX8_isLine_75 rfl rfl ?_
          exact r_iret dX8_isLine_76 rfl (by rw [hP]; exact ⟨⟨hfr, h46⟩, by first | exact Or.inl ⟨rfl, ln_stuck hE (by omega) (by omega)⟩ | exact Or.inr ⟨k, by omega, rfl, by omega, hE⟩⟩)
        · skip
          refine r_iload_n dX8_isLine_66 rfl rfl ?_
          refine r_iload_n dX8_isLine_67 rfl rfl ?_
          refine r_icmp_ge (tgt := 75) dX8_isLine_68 (by decide) (by omega) (fun hb13 => ?_) (fun hb13 => ?_)
          · skip
            refine r_iload_n dX8_isLine_75 rfl rfl ?_
            exact r_iret dX8_isLine_76 rfl (by rw [hP]; exact ⟨⟨hfr, h46⟩, by first | exact Or.inl ⟨rfl, ln_stuck hE (by omega) (by omega)⟩ | exact Or.inr ⟨k, by omega, rfl, by omega, hE⟩⟩)
          · skip
            refine r_iconst dX8_isLine_71 ?_
            refine r_goto (tgt := 76) dX8_isLine_72 (by decide) ?_
            exact r_iret dX8_isLine_76 rfl (by rw [hP]; exact ⟨⟨hfr, h46⟩, by first | exact Or.inl ⟨rfl, ln_stuck hE (by omega) (by omega)⟩ | exact Or.inr ⟨k, by omega, rfl, by omega, hE⟩⟩)
      · skip
        obtain ⟨nu2, hq2⟩ : ∃ nu, RdS ρ s (row, k, cf, 0, nu, s 56) := by rcases hI with q | q; exact q.2.2; exact absurd q.1 (by omega)
        refine r_aload_n dX8_isLine_24 rfl rfl ?_
        refine r_iload_n dX8_isLine_25 rfl rfl ?_
        refine r_iload_n dX8_isLine_26 rfl rfl ?_
        refine r_callV (tX8_isNumber G s ρ row k cf nu2 (by rw [e51, e6]; exact ⟨p51, p6⟩) (hq2) (by rw [e6]; omega) (by rw [e51, e6]; exact hbf)) dX8_isLine_27 svX8_isNumber q782 sh46 (ci := 8) rfl rfl rfl ⟨Nat.le_of_ble_eq_true rfl, Nat.le_of_ble_eq_true rfl⟩ (Nat.le_of_ble_eq_true rfl) ⟨Nat.le_of_ble_eq_true rfl, Nat.le_of_ble_eq_true rfl⟩ ?_
        rintro _ w (⟨rfl, hw⟩ | ⟨rfl, rfl, hw⟩)
        · skip
          obtain ⟨dg, v9, w1, wd, wE, w2, w3⟩ := hw
          have f51 : w 51 = σ 51 := by rw [w2 51 (by decide) (by decide)]; exact e51
          have f6 : w 46 6 = σ 46 6 := by rw [w3 6 (by decide)]; exact e6
          have w12 := w1.2
          rw [p6] at w12
          refine r_if_ne (tgt := 35) dX8_isLine_30 (by decide) (by omega) (fun hb14 => ?_) (fun hb14 => ?_)
          · skip
            refine r_iinc (lv' := [(0, Rf G 46), (1, I row), (2, I c9), (3, I (k + 1)), (4, I g)]) dX8_isLine_35 (Nat.le_of_ble_eq_true rfl) rfl rfl ?_
            refine r_iload_n dX8_isLine_38 rfl rfl ?_
            refine r_iload_n dX8_isLine_39 rfl rfl ?_
            refine r_icmp_ge (tgt := 56) dX8_isLine_40 (by decide) (by omega) (fun hb15 => ?_) (fun hb15 => ?_)
            · skip
              refine r_iconst dX8_isLine_56 ?_
              refine r_istore (lv' := [(0, Rf G 46), (1, I row), (2, I c9), (3, I (k + 1)), (4, I 0)]) dX8_isLine_57 (Nat.le_of_ble_eq_true rfl) rfl ?_
              refine r_goto (tgt := 19) dX8_isLine_59 (by decide) ?_
              exact ih19 _ (by omega) _ _ _ _ rfl (hc9) (by first | (intro a p q; rw [up_ne p, w2 a p q]; exact hfr a p q) | (intro a p q; rw [w2 a p q]; exact hfr a p q)) (by first | (intro j p; rw [up_nj p, w3 j p]; exact h46 j p) | (intro j p; rw [w3 j p]; exact h46 j p)) (by first | exact ln_go w1 wd (by omega) (by rw [p6]; omega) (by rw [p51]; omega) | exact ln_no w1 wd wE (by omega) (by rw [p51, p6]; omega))
            · skip
              refine r_aload_n dX8_isLine_43 rfl rfl ?_
              refine r_bipush dX8_isLine_44 rfl ?_
              refine r_callV (tX8_takes G w 44 (by rw [f6]; omega) (by rw [f51, f6]; exact hbf) (by omega)) dX8_isLine_46 svX8_takes q788 sh46 (ci := 8) rfl rfl rfl ⟨Nat.le_of_ble_eq_true rfl, Nat.le_of_ble_eq_true rfl⟩ (Nat.le_of_ble_eq_true rfl) ⟨Nat.le_of_ble_eq_true rfl, Nat.le_of_ble_eq_true rfl⟩ ?_
              rintro _ _ (⟨hq16, rfl, rfl⟩ | ⟨hq16, rfl, rfl⟩)
              · skip
                rw [f51, f6] at hq16
                refine r_if_eq (tgt := 56) dX8_isLine_49 (by decide) (by omega) (fun hb17 => ?_) (fun hb17 => ?_)
                · skip
                  exact absurd hb17 (by omega)
                · skip
                  refine r_iconst dX8_isLine_52 ?_
                  refine r_goto (tgt := 57) dX8_isLine_53 (by decide) ?_
                  refine r_istore (lv' := [(0, Rf G 46), (1, I row), (2, I c9), (3, I (k + 1)), (4, I 1)]) dX8_isLine_57 (Nat.le_of_ble_eq_true rfl) rfl ?_
                  refine r_goto (tgt := 19) dX8_isLine_59 (by decide) ?_
                  exact ih19 _ (by omega) _ _ _ _ rfl (hc9) (by first | (intro a p q; rw [up_ne p, w2 a p q]; exact hfr a p q) | (intro a p q; rw [w2 a p q]; exact hfr a p q)) (by first | (intro j p; rw [up_nj p, w3 j p]; exact h46 j p) | (intro j p; rw [w3 j p]; exact h46 j p)) (by first | exact ln_go w1 wd (by omega) (by rw [p6]; omega) (by rw [p51]; omega) | exact ln_no w1 wd wE (by omega) (by rw [p51, p6]; omega))
              · skip
                rw [f51, f6] at hq16
                refine r_if_eq (tgt := 56) dX8_isLine_49 (by decide) (by omega) (fun hb18 => ?_) (fun hb18 => ?_)
                · skip
                  refine r_iconst dX8_isLine_56 ?_
                  refine r_istore (lv' := [(0, Rf G 46), (1, I row), (2, I c9), (3, I (k + 1)), (4, I 0)]) dX8_isLine_57 (Nat.le_of_ble_eq_true rfl) rfl ?_
                  refine r_goto (tgt := 19) dX8_isLine_59 (by decide) ?_
                  exact ih19 _ (by omega) _ _ _ _ rfl (hc9) (by first | (intro a p q; rw [up_ne p, w2 a p q]; exact hfr a p q) | (intro a p q; rw [w2 a p q]; exact hfr a p q)) (by first | (intro j p; rw [up_nj p, w3 j p]; exact h46 j p) | (intro j p; rw [w3 j p]; exact h46 j p)) (by first | exact ln_go w1 wd (by omega) (by rw [p6]; omega) (by rw [p51]; omega) | exact ln_no w1 wd wE (by omega) (by rw [p51, p6]; omega))
                · skip
                  exact absurd hb18 (by omega)
          · skip
            exact absurd hb14 (by omega)
        · skip
          refine r_if_ne (tgt := 35) dX8_isLine_30 (by decide) (by omega) (fun hb19 => ?_) (fun hb19 => ?_)
          · skip
            exact absurd hb19 (by omega)
          · skip
            refine r_iconst dX8_isLine_33 ?_
            exact r_iret dX8_isLine_34 rfl (by rw [hP]; exact ⟨⟨hfr, h46⟩, Or.inl ⟨rfl, _, hq2, hw, fun q => by have := q.1; simp only [] at this; omega⟩⟩)
    exact L19 _ _ 0 1 _ rfl (hcf9) (fun _ _ _ => rfl) (fun _ _ => rfl) (Or.inl ⟨rfl, by omega, nu, hq⟩)
set_option maxHeartbeats 1000000 in
set_option maxRecDepth 100000 in
theorem tX8_isWhole (G : GT) (σ : Sg)  (h : 0 ≤ σ 46 6 ∧ σ 46 6 ≤ 60) (hbf : ∀ i, 0 ≤ i → i < σ 46 6 → 33 ≤ σ 51 i ∧ σ 51 i ≤ 126) : Ct G mX8_isWhole 5 0 0 false SH SH [Rf G 46] σ (fun rv sv => (some (I 1) = rv ∧ WhP σ sv 1) ∨ (some (I 0) = rv ∧ WhP σ sv 0)) := by
  obtain ⟨P, hP⟩ : ∃ P : Option Value → Sg → Prop, P = (fun rv sv => (some (I 1) = rv ∧ WhP σ sv 1) ∨ (some (I 0) = rv ∧ WhP σ sv 0)) := ⟨_, rfl⟩
  rw [← hP]
  refine ct_of (lv := [(0, Rf G 46)]) (by decide +kernel) (Nat.le_of_ble_eq_true rfl) rfl ?_
  refine r_aload_n dX8_isWhole_0 rfl rfl ?_
  refine r_iconst dX8_isWhole_1 ?_
  refine r_putI (z := 14) tyX8 dX8_isWhole_2 sh46 rfl (ci := 8) (j := 14) rfl (Nat.le_of_ble_eq_true rfl) rfl tyX8_ok nmX8 ixX8 q656 rfl rfl rfl ?_
  refine r_aload_n dX8_isWhole_5 rfl rfl ?_
  refine r_iconst dX8_isWhole_6 ?_
  refine r_putI (z := 16) tyX8 dX8_isWhole_7 sh46 rfl (ci := 8) (j := 16) rfl (Nat.le_of_ble_eq_true rfl) rfl tyX8_ok nmX8 ixX8 q658 rfl rfl rfl ?_
  refine r_iconst dX8_isWhole_10 ?_
  refine r_istore_n (lv' := [(0, Rf G 46), (1, I 1)]) dX8_isWhole_11 rfl (Nat.le_of_ble_eq_true rfl) rfl ?_
  have L12 : ∀ (mm : Nat) (g : Int) (s : Sg), (11 * g + 10 - s 46 16).toNat = mm → (hfr : RFr σ s) → (hI : WhI σ s g) → Rn G mX8_isWhole (rmD 5 0 0) E0 (Zn G false SH P 0 0) false SH 0 0 12 [(0, Rf G 46), (1, I g)] [] s := by
    intro mm
    induction mm using Nat.strongRecOn with
    | _ mm ih12 =>
    intro g s hm12 hfr hI
    have e51 : s 51 = σ 51 := hfr.1 51 (by decide) (by decide)
    have e6 : s 46 6 = σ 46 6 := hfr.2 6 (by decide) (by decide) (by decide)
    have hgk : (g = 1 ∧ 0 ≤ s 46 16 ∧ s 46 16 ≤ 9) ∨ g = 0 := by rcases hI with q | q; exact Or.inl ⟨q.1, q.2.1⟩; exact Or.inr q.1
    refine r_iload_n dX8_isWhole_12 rfl rfl ?_
    refine r_if_eq (tgt := 74) dX8_isWhole_13 (by decide) (by omega) (fun hb1 => ?_) (fun hb1 => ?_)
    · skip
      have hs14 : 0 ≤ s 46 14 ∧ s 46 14 ≤ σ 46 6 := by rcases hI with q | ⟨-, q, q1, -⟩; exact absurd q.1 (by omega); exact q1.2
      refine r_aload_n dX8_isWhole_74 rfl rfl ?_
      refine r_getI (z := 14) dX8_isWhole_75 sh46 rfl (ci := 8) (j := 14) rfl (Nat.le_of_ble_eq_true rfl) rfl ixX8 q656 rfl (hv := rfl) ?_
      refine r_aload_n dX8_isWhole_78 rfl rfl ?_
      refine r_getI (z := 6) dX8_isWhole_79 sh46 rfl (ci := 8) (j := 6) rfl (Nat.le_of_ble_eq_true rfl) rfl ixX8 q648 rfl (hv := hfr.2 6 (by decide) (by decide) (by decide)) ?_
      refine r_icmp_ne (tgt := 89) dX8_isWhole_82 (by decide) (by omega) (fun hb2 => ?_) (fun hb2 => ?_)
      · skip
        refine r_iconst dX8_isWhole_89 ?_
        exact r_zret dX8_isWhole_90 rfl (by first | rfl | decide) (by rw [hP]; exact by first | exact Or.inl ⟨rfl, wh_y hI (by omega) hfr (by omega)⟩ | exact Or.inr ⟨rfl, wh_n hI (by omega) hfr (by omega)⟩)
      · skip
        refine r_iconst dX8_isWhole_85 ?_
        refine r_goto (tgt := 90) dX8_isWhole_86 (by decide) ?_
        exact r_zret dX8_isWhole_90 rfl (by first | rfl | decide) (by rw [hP]; exact by first | exact Or.inl ⟨rfl, wh_y hI (by omega) hfr (by omega)⟩ | exact Or.inr ⟨rfl, wh_n hI (by omega) hfr (by omega)⟩)
    · skip
      obtain ⟨nu, cf, hq, hcf, hcb⟩ : ∃ nu cf, RdS σ s (s 46 16, 0, cf, 0, nu, s 56) ∧ ((s 46 16 = 0 ∧ cf = 10) ∨ (1 ≤ s 46 16 ∧ cf = s 46 17)) ∧ 1 ≤ cf ∧ cf ≤ 10 := by rcases hI with q | q; exact q.2.2; exact absurd q.1 (by omega)
      refine r_aload_n dX8_isWhole_16 rfl rfl ?_
      refine r_aload_n dX8_isWhole_17 rfl rfl ?_
      refine r_getI (z := 16) dX8_isWhole_18 sh46 rfl (ci := 8) (j := 16) rfl (Nat.le_of_ble_eq_true rfl) rfl ixX8 q658 rfl (hv := rfl) ?_
      refine r_callV (tX8_isLine G s σ (s 46 16) cf nu (by rw [e51, e6]; exact ⟨rfl, rfl⟩) (hq) (hcf) (by rw [e6]; omega) (by rw [e51, e6]; exact hbf)) dX8_isWhole_21 svX8_isLine q779 sh46 (ci := 8) rfl rfl rfl ⟨Nat.le_of_ble_eq_true rfl, Nat.le_of_ble_eq_true rfl⟩ (Nat.le_of_ble_eq_true rfl) ⟨Nat.le_of_ble_eq_true rfl, Nat.le_of_ble_eq_true rfl⟩ ?_
      rintro _ w ⟨⟨w2, w3⟩, (⟨rfl, hw⟩ | ⟨k, hk, rfl, hrk, hE⟩)⟩
      · skip
        refine r_istore_n (lv' := [(0, Rf G 46), (1, I g), (2, I (-1))]) dX8_isWhole_24 rfl (Nat.le_of_ble_eq_true rfl) rfl ?_
        refine r_iload_n dX8_isWhole_25 rfl rfl ?_
        refine r_iconst dX8_isWhole_26 ?_
        refine r_icmp_ne (tgt := 32) dX8_isWhole_27 (by decide) (by omega) (fun hb3 => ?_) (fun hb3 => ?_)
        · skip
          exact absurd hb3 (by omega)
        · skip
          refine r_iconst dX8_isWhole_30 ?_
          exact r_zret dX8_isWhole_31 rfl (by first | rfl | decide) (by rw [hP]; exact by first | exact Or.inr ⟨rfl, wh_lnn hw w2 w3 hfr⟩ | (exfalso; omega))
      · skip
        refine r_istore_n (lv' := [(0, Rf G 46), (1, I g), (2, I k)]) dX8_isWhole_24 rfl (Nat.le_of_ble_eq_true rfl) rfl ?_
        refine r_iload_n dX8_isWhole_25 rfl rfl ?_
        refine r_iconst dX8_isWhole_26 ?_
        refine r_icmp_ne (tgt := 32) dX8_isWhole_27 (by decide) (by omega) (fun hb4 => ?_) (fun hb4 => ?_)
        · skip
          refine r_aload_n dX8_isWhole_32 rfl rfl ?_
          refine r_iload_n dX8_isWhole_33 rfl rfl ?_
          refine r_putI (z := 17) tyX8 dX8_isWhole_34 sh46 rfl (ci := 8) (j := 17) rfl (Nat.le_of_ble_eq_true rfl) rfl tyX8_ok nmX8 ixX8 q659 rfl rfl rfl ?_
          refine r_aload_n dX8_isWhole_37 rfl rfl ?_
          refine r_dup dX8_isWhole_38 rfl ?_
          refine r_getI (z := 16) dX8_isWhole_39 sh46 rfl (ci := 8) (j := 16) rfl (Nat.le_of_ble_eq_true rfl) rfl ixX8 q658 rfl (hv := (up_nj (by decide)).trans (w3 16 (by decide))) ?_
          refine r_iconst dX8_isWhole_42 ?_
          refine r_iadd dX8_isWhole_43 ?_
          refine r_putI (z := 16) tyX8 dX8_isWhole_44 sh46 rfl (ci := 8) (j := 16) rfl (Nat.le_of_ble_eq_true rfl) rfl tyX8_ok nmX8 ixX8 q658 rfl rfl rfl ?_
          obtain ⟨x, hx⟩ : ∃ x, x = up (up w 46 17 k) 46 16 ((s 46 16) + 1) := ⟨_, rfl⟩
          rw [← hx]
          have x14 : x 46 14 = w 46 14 := by rw [hx, up_nj (by decide), up_nj (by decide)]
          have x16 : x 46 16 = s 46 16 + 1 := by rw [hx, up_eq]
          have x17 : x 46 17 = k := by rw [hx, up_nj (by decide), up_eq]
          have x56 : x 56 = w 56 := by rw [hx, up_ne (by decide), up_ne (by decide)]
          have x51 : x 51 = σ 51 := by rw [hx, up_ne (by decide), up_ne (by decide), w2 51 (by decide) (by decide), e51]
          have x6 : x 46 6 = σ 46 6 := by rw [hx, up_nj (by decide), up_nj (by decide), w3 6 (by decide), e6]
          have hw12 : 0 ≤ w 46 14 ∧ w 46 14 ≤ σ 46 6 := by obtain ⟨_, _, z, _⟩ := hE; exact z.2
          have xfr : RFr σ x := ⟨fun a p q => by rw [hx, up_ne p, up_ne p, w2 a p q]; exact hfr.1 a p q, fun j p q r => by rw [hx, up_nj q, up_nj r, w3 j p]; exact hfr.2 j p q r⟩
          refine r_aload_n dX8_isWhole_47 rfl rfl ?_
          refine r_getI (z := 16) dX8_isWhole_48 sh46 rfl (ci := 8) (j := 16) rfl (Nat.le_of_ble_eq_true rfl) rfl ixX8 q658 rfl (hv := x16) ?_
          refine r_bipush dX8_isWhole_51 rfl ?_
          refine r_icmp_ge (tgt := 69) dX8_isWhole_53 (by decide) (by omega) (fun hb5 => ?_) (fun hb5 => ?_)
          · skip
            refine r_iconst dX8_isWhole_69 ?_
            refine r_istore_n (lv' := [(0, Rf G 46), (1, I 0), (2, I k)]) dX8_isWhole_70 rfl (Nat.le_of_ble_eq_true rfl) rfl ?_
            refine r_goto (tgt := 12) dX8_isWhole_71 (by decide) ?_
            refine r_sub [0, 1] rfl ?_
            exact ih12 _ (by first | (rw [up_nj (by decide), x16]; omega) | (rw [x16]; omega)) _ _ rfl (by first | exact xfr | exact ⟨fun a p q => by rw [up_ne p]; exact xfr.1 a p q, fun j p q r => by rw [up_nj p]; exact xfr.2 j p q r⟩) (by first | exact wh_go hE hrk (by omega) (by omega) x14 x16 x17 x56 (by omega) (by omega) | exact wh_no hE hrk (by omega) (by omega) x14 x16 x17 x56 (by omega))
          · skip
            refine r_aload_n dX8_isWhole_56 rfl rfl ?_
            refine r_bipush dX8_isWhole_57 rfl ?_
            refine r_callV (tX8_takes G x 47 (by rw [x6, x14]; omega) (by rw [x51, x6]; exact hbf) (by omega)) dX8_isWhole_59 svX8_takes q788 sh46 (ci := 8) rfl rfl rfl ⟨Nat.le_of_ble_eq_true rfl, Nat.le_of_ble_eq_true rfl⟩ (Nat.le_of_ble_eq_true rfl) ⟨Nat.le_of_ble_eq_true rfl, Nat.le_of_ble_eq_true rfl⟩ ?_
            rintro _ _ (⟨hq6, rfl, rfl⟩ | ⟨hq6, rfl, rfl⟩)
            · skip
              rw [x51, x6, x14] at hq6
              refine r_if_eq (tgt := 69) dX8_isWhole_62 (by decide) (by omega) (fun hb7 => ?_) (fun hb7 => ?_)
              · skip
                exact absurd hb7 (by omega)
              · skip
                refine r_iconst dX8_isWhole_65 ?_
                refine r_goto (tgt := 70) dX8_isWhole_66 (by decide) ?_
                refine r_istore_n (lv' := [(0, Rf G 46), (1, I 1), (2, I k)]) dX8_isWhole_70 rfl (Nat.le_of_ble_eq_true rfl) rfl ?_
                refine r_goto (tgt := 12) dX8_isWhole_71 (by decide) ?_
                refine r_sub [0, 1] rfl ?_
                exact ih12 _ (by first | (rw [up_nj (by decide), x16]; omega) | (rw [x16]; omega)) _ _ rfl (by first | exact xfr | exact ⟨fun a p q => by rw [up_ne p]; exact xfr.1 a p q, fun j p q r => by rw [up_nj p]; exact xfr.2 j p q r⟩) (by first | exact wh_go hE hrk (by omega) (by omega) x14 x16 x17 x56 (by omega) (by omega) | exact wh_no hE hrk (by omega) (by omega) x14 x16 x17 x56 (by omega))
            · skip
              rw [x51, x6, x14] at hq6
              refine r_if_eq (tgt := 69) dX8_isWhole_62 (by decide) (by omega) (fun hb8 => ?_) (fun hb8 => ?_)
              · skip
                refine r_iconst dX8_isWhole_69 ?_
                refine r_istore_n (lv' := [(0, Rf G 46), (1, I 0), (2, I k)]) dX8_isWhole_70 rfl (Nat.le_of_ble_eq_true rfl) rfl ?_
                refine r_goto (tgt := 12) dX8_isWhole_71 (by decide) ?_
                refine r_sub [0, 1] rfl ?_
                exact ih12 _ (by first | (rw [up_nj (by decide), x16]; omega) | (rw [x16]; omega)) _ _ rfl (by first | exact xfr | exact ⟨fun a p q => by rw [up_ne p]; exact xfr.1 a p q, fun j p q r => by rw [up_nj p]; exact xfr.2 j p q r⟩) (by first | exact wh_go hE hrk (by omega) (by omega) x14 x16 x17 x56 (by omega) (by omega) | exact wh_no hE hrk (by omega) (by omega) x14 x16 x17 x56 (by omega))
              · skip
                exact absurd hb8 (by omega)
        · skip
          refine r_iconst dX8_isWhole_30 ?_
          exact r_zret dX8_isWhole_31 rfl (by first | rfl | decide) (by rw [hP]; exact by first | exact Or.inr ⟨rfl, wh_lnn hw w2 w3 hfr⟩ | (exfalso; omega))
  exact L12 _ 1 _ rfl (⟨fun a p q => by rw [up_ne p, up_ne p], fun j p q r => by rw [up_nj q, up_nj p]⟩) (Or.inl ⟨rfl, by rw [up_eq]; omega, 0, 10, ⟨by rw [up_eq, up_nj (by decide), up_eq, up_ne (by decide), up_ne (by decide)]; rfl, by rw [up_nj (by decide), up_eq]; omega⟩, Or.inl ⟨up_eq, rfl⟩, by decide, by decide⟩)
