
/-- open blocks: rows a to b, columns p to q, fuel -/
abbrev Blk : Type := Int × Int × Int × Int × Nat
def StkP (s : Sg) : List Blk → Prop
  | [] => True
  | x :: l => (s 53 (4 * l.length) = x.1 ∧ s 53 (4 * l.length + 1) = x.2.1 ∧ s 53 (4 * l.length + 2) = x.2.2.1 ∧ s 53 (4 * l.length + 3) = x.2.2.2.1) ∧ StkP s l
def szB (l : List Blk) : Int := match l with
  | [] => 0
  | x :: t => (x.2.1 - x.1 + 1) + szB t
def lkB (T : Int → Int) (l : List Blk) : Int := match l with
  | [] => 0
  | x :: t => hvL T x.2.2.2.2 x.1 x.2.1 x.2.2.1 x.2.2.2.1 + lkB T t
def OkB (T : Int → Int) (R C : Int) (tg : Int → Int) (x : Blk) : Prop := (0 ≤ x.1 ∧ x.1 ≤ x.2.1 ∧ x.2.1 < R ∧ 0 ≤ x.2.2.1 ∧ x.2.2.1 ≤ x.2.2.2.1 ∧ x.2.2.2.1 < C ∧ x.2.1 - x.1 + 1 ≤ x.2.2.2.2) ∧ ∀ r, x.1 ≤ r → r ≤ x.2.1 → hvP T x.2.2.2.2 x.1 x.2.1 x.2.2.1 x.2.2.2.1 r = tg r
theorem StkP_c {s t : Sg} : ∀ l : List Blk, (∀ i : Int, 0 ≤ i → i < 4 * l.length → t 53 i = s 53 i) → StkP s l → StkP t l
  | [], _, _ => trivial
  | x :: l, h, ⟨⟨h1, h2, h3, h4⟩, h5⟩ => by
    have e : (((x :: l).length : Nat) : Int) = l.length + 1 := by simp
    rw [e] at h
    exact ⟨⟨by rw [h _ (by omega) (by omega), h1], by rw [h _ (by omega) (by omega), h2], by rw [h _ (by omega) (by omega), h3], by rw [h _ (by omega) (by omega), h4]⟩, StkP_c l (fun i a b => h i a (by omega)) h5⟩
theorem szB_len {T : Int → Int} {R C : Int} {tg : Int → Int} : ∀ l : List Blk, (∀ x ∈ l, OkB T R C tg x) → (l.length : Int) ≤ szB l
  | [], _ => Int.le_refl _
  | x :: l, h => by
    have ih := szB_len l (fun y hy => h y (List.mem_cons_of_mem _ hy))
    have hx := (h x List.mem_cons_self).1
    have e : (((x :: l).length : Nat) : Int) = l.length + 1 := by simp
    rw [e]
    show _ ≤ (x.2.1 - x.1 + 1) + szB l
    omega
def opS (σ : Sg) (a b p q : Int) : Sg := if a ≤ b then up (up (up (up (up σ 53 (4 * σ 46 11) a) 53 (4 * σ 46 11 + 1) b) 53 (4 * σ 46 11 + 2) p) 53 (4 * σ 46 11 + 3) q) 46 11 (σ 46 11 + 1) else σ
/-- a block more, if it has rows -/
def cnB (a b p q : Int) (f : Nat) (l : List Blk) : List Blk := if a ≤ b then (a, b, p, q, f) :: l else l
theorem opS_ne {σ : Sg} {a b p q : Int} {o : Nat} (h1 : o ≠ 46) (h2 : o ≠ 53) : opS σ a b p q o = σ o := by
  unfold opS
  split
  · rw [up_ne h1, up_ne h2, up_ne h2, up_ne h2, up_ne h2]
  · rfl
theorem opS_nj {σ : Sg} {a b p q j : Int} (h1 : j ≠ 11) : opS σ a b p q 46 j = σ 46 j := by
  unfold opS
  split
  · rw [up_nj h1, up_ne (by decide), up_ne (by decide), up_ne (by decide), up_ne (by decide)]
  · rfl
theorem opS_ok {σ : Sg} {a b p q : Int} {f : Nat} {l : List Blk} (hl : σ 46 11 = l.length) (hs : StkP σ l) : opS σ a b p q 46 11 = (cnB a b p q f l).length ∧ StkP (opS σ a b p q) (cnB a b p q f l) := by
  unfold opS cnB
  by_cases c : a ≤ b
  · rw [if_pos c, if_pos c]
    refine ⟨by rw [up_eq, hl]; simp, ⟨?_, ?_, ?_, ?_⟩, StkP_c l (fun i a b => ?_) hs⟩
    · rw [up_ne (by decide), ← hl, up_nj (by omega), up_nj (by omega), up_nj (by omega), up_eq]
    · rw [up_ne (by decide), ← hl, up_nj (by omega), up_nj (by omega), up_eq]
    · rw [up_ne (by decide), ← hl, up_nj (by omega), up_eq]
    · rw [up_ne (by decide), ← hl, up_eq]
    · rw [up_ne (by decide), up_nj (by omega), up_nj (by omega), up_nj (by omega), up_nj (by omega)]
  · rw [if_neg c, if_neg c]; exact ⟨hl, hs⟩
theorem cnB_sz {a b p q : Int} {f : Nat} {l : List Blk} (h : a ≤ b + 1) : szB (cnB a b p q f l) = (b - a + 1) + szB l := by
  unfold cnB
  split
  · rfl
  · omega
theorem cnB_lk {T : Int → Int} {a b p q : Int} {f : Nat} {l : List Blk} : lkB T (cnB a b p q f l) = hvL T f a b p q + lkB T l := by
  unfold cnB
  split
  · rfl
  · rename_i h
    rw [hvL_0 (by omega), Int.zero_add]
theorem cnB_mem {a b p q : Int} {f : Nat} {l : List Blk} {x : Blk} (h : x ∈ cnB a b p q f l) : (a ≤ b ∧ x = (a, b, p, q, f)) ∨ x ∈ l := by
  unfold cnB at h
  by_cases c : a ≤ b
  · rw [if_pos c] at h
    rcases List.mem_cons.mp h with h | h
    · exact Or.inl ⟨c, h⟩
    · exact Or.inr h
  · rw [if_neg c] at h; exact Or.inr h
theorem cnB_in {a b p q : Int} {f : Nat} {l : List Blk} {x : Blk} (h : x ∈ l) : x ∈ cnB a b p q f l := by
  unfold cnB
  split
  · exact List.mem_cons_of_mem _ h
  · exact h
theorem cnB_at {a b p q : Int} {f : Nat} {l : List Blk} (h : a ≤ b) : (a, b, p, q, f) ∈ cnB a b p q f l := by
  unfold cnB
  rw [if_pos h]
  exact List.mem_cons_self

set_option maxHeartbeats 1000000 in
set_option maxRecDepth 100000 in
theorem tX8_opens (G : GT) (σ : Sg) (a b p q : Int) (h : -2147483648 ≤ a ∧ a ≤ 2147483647 ∧ -2147483648 ≤ b ∧ b ≤ 2147483647 ∧ 0 ≤ σ 46 11 ∧ σ 46 11 < 12) : Ct G mX8_opens 1 0 0 false SH SH [Rf G 46, I a, I b, I p, I q] σ (fun rv sv => none = rv ∧ opS σ a b p q = sv) := by
  obtain ⟨P, hP⟩ : ∃ P : Option Value → Sg → Prop, P = (fun rv sv => none = rv ∧ opS σ a b p q = sv) := ⟨_, rfl⟩
  rw [← hP]
  refine ct_of (lv := [(0, Rf G 46), (1, I a), (2, I b), (3, I p), (4, I q)]) (by decide +kernel) (Nat.le_of_ble_eq_true rfl) rfl ?_
  refine r_iload_n dX8_opens_0 rfl rfl ?_
  refine r_iload_n dX8_opens_1 rfl rfl ?_
  refine r_icmp_gt (tgt := 70) dX8_opens_2 (by decide) (by omega) (fun hb1 => ?_) (fun hb1 => ?_)
  · skip
    exact r_vret dX8_opens_70 rfl (by rw [hP]; exact ⟨rfl, by unfold opS; first | rw [if_pos (show a ≤ b by omega)] | rw [if_neg (show ¬ a ≤ b by omega)]⟩)
  · skip
    refine r_aload_n dX8_opens_5 rfl rfl ?_
    refine r_getR (b := 53) dX8_opens_6 sh46 rfl (ci := 8) (j := 10) rfl (Nat.le_of_ble_eq_true rfl) ixX8 q652 rfl ?_
    refine r_iconst dX8_opens_9 ?_
    refine r_aload_n dX8_opens_10 rfl rfl ?_
    refine r_getI (z := 11) dX8_opens_11 sh46 rfl (ci := 8) (j := 11) rfl (Nat.le_of_ble_eq_true rfl) rfl ixX8 q653 rfl (hv := rfl) ?_
    refine r_imul dX8_opens_14 ?_
    refine r_iload_n dX8_opens_15 rfl rfl ?_
    refine r_iast dX8_opens_16 sh53 (by omega) ?_
    refine r_aload_n dX8_opens_17 rfl rfl ?_
    refine r_getR (b := 53) dX8_opens_18 sh46 rfl (ci := 8) (j := 10) rfl (Nat.le_of_ble_eq_true rfl) ixX8 q652 rfl ?_
    refine r_iconst dX8_opens_21 ?_
    refine r_aload_n dX8_opens_22 rfl rfl ?_
    refine r_getI (z := 11) dX8_opens_23 sh46 rfl (ci := 8) (j := 11) rfl (Nat.le_of_ble_eq_true rfl) rfl ixX8 q653 rfl (hv := congrFun (up_ne (by decide)) 11) ?_
    refine r_imul dX8_opens_26 ?_
    refine r_iconst dX8_opens_27 ?_
    refine r_iadd dX8_opens_28 ?_
    refine r_iload_n dX8_opens_29 rfl rfl ?_
    refine r_iast dX8_opens_30 sh53 (by omega) ?_
    refine r_aload_n dX8_opens_31 rfl rfl ?_
    refine r_getR (b := 53) dX8_opens_32 sh46 rfl (ci := 8) (j := 10) rfl (Nat.le_of_ble_eq_true rfl) ixX8 q652 rfl ?_
    refine r_iconst dX8_opens_35 ?_
    refine r_aload_n dX8_opens_36 rfl rfl ?_
    refine r_getI (z := 11) dX8_opens_37 sh46 rfl (ci := 8) (j := 11) rfl (Nat.le_of_ble_eq_true rfl) rfl ixX8 q653 rfl (hv := (congrFun (up_ne (by decide)) 11).trans (congrFun (up_ne (by decide)) 11)) ?_
    refine r_imul dX8_opens_40 ?_
    refine r_iconst dX8_opens_41 ?_
    refine r_iadd dX8_opens_42 ?_
    refine r_iload_n dX8_opens_43 rfl rfl ?_
    refine r_iast dX8_opens_44 sh53 (by omega) ?_
    refine r_aload_n dX8_opens_45 rfl rfl ?_
    refine r_getR (b := 53) dX8_opens_46 sh46 rfl (ci := 8) (j := 10) rfl (Nat.le_of_ble_eq_true rfl) ixX8 q652 rfl ?_
    refine r_iconst dX8_opens_49 ?_
    refine r_aload_n dX8_opens_50 rfl rfl ?_
    refine r_getI (z := 11) dX8_opens_51 sh46 rfl (ci := 8) (j := 11) rfl (Nat.le_of_ble_eq_true rfl) rfl ixX8 q653 rfl (hv := (congrFun (up_ne (by decide)) 11).trans ((congrFun (up_ne (by decide)) 11).trans (congrFun (up_ne (by decide)) 11))) ?_
    refine r_imul dX8_opens_54 ?_
    refine r_iconst dX8_opens_55 ?_
    refine r_iadd dX8_opens_56 ?_
    refine r_iload dX8_opens_57 rfl ?_
    refine r_iast dX8_opens_59 sh53 (by omega) ?_
    refine r_aload_n dX8_opens_60 rfl rfl ?_
    refine r_dup dX8_opens_61 rfl ?_
    refine r_getI (z := 11) dX8_opens_62 sh46 rfl (ci := 8) (j := 11) rfl (Nat.le_of_ble_eq_true rfl) rfl ixX8 q653 rfl (hv := (congrFun (up_ne (by decide)) 11).trans ((congrFun (up_ne (by decide)) 11).trans ((congrFun (up_ne (by decide)) 11).trans (congrFun (up_ne (by decide)) 11)))) ?_
    refine r_iconst dX8_opens_65 ?_
    refine r_iadd dX8_opens_66 ?_
    refine r_putI (z := 11) tyX8 dX8_opens_67 sh46 rfl (ci := 8) (j := 11) rfl (Nat.le_of_ble_eq_true rfl) rfl tyX8_ok nmX8 ixX8 q653 rfl rfl rfl ?_
    exact r_vret dX8_opens_70 rfl (by rw [hP]; exact ⟨rfl, by unfold opS; first | rw [if_pos (show a ≤ b by omega)] | rw [if_neg (show ¬ a ≤ b by omega)]⟩)
