variable {Ω : List Ob}

/-- the cells that a reader has told -/
def Tld (q : AS) (r c : Int) : Prop := (0 ≤ r ∧ r < q.1 ∧ 0 ≤ c ∧ c < q.2.2.1) ∨ (r = q.1 ∧ 0 ≤ c ∧ (c < q.2.1 ∨ (c = q.2.1 ∧ 0 < q.2.2.2.1)))
/-- the same reader, but for what it has not told -/
def AR (q p : AS) : Prop := q.1 = p.1 ∧ q.2.1 = p.2.1 ∧ q.2.2.1 = p.2.2.1 ∧ q.2.2.2.1 = p.2.2.2.1 ∧ q.2.2.2.2.1 = p.2.2.2.2.1 ∧ ∀ r c, Tld q r c → q.2.2.2.2.2 (10 * r + c) = p.2.2.2.2.2 (10 * r + c) ∧ 0 ≤ q.2.2.2.2.2 (10 * r + c) ∧ q.2.2.2.2.2 (10 * r + c) ≤ 9999
theorem stp_AR {q p : AS} {c : Int} (hA : AB q) (h : AR q p) : (stp q c = none ∧ stp p c = none) ∨ ∃ q1 p1, stp q c = some q1 ∧ stp p c = some p1 ∧ AR q1 p1 := by
  obtain ⟨r, co, cf, dg, nu, g⟩ := q
  obtain ⟨r', co', cf', dg', nu', g'⟩ := p
  obtain ⟨e1, e2, e3, e4, e5, hg⟩ := h
  simp only [] at e1 e2 e3 e4 e5
  subst e1 e2 e3 e4 e5
  by_cases h0 : stp (r, co, cf, dg, nu, g) c = none
  · left
    refine ⟨h0, ?_⟩
    simp only [stp] at h0 ⊢
    by_cases h1 : 48 ≤ c ∧ c ≤ 57
    · rw [if_pos h1] at h0 ⊢
      by_cases h2 : ¬ dg = 0 ∧ (nu = 0 ∨ dg = 4)
      · rw [if_pos h2]
      · rw [if_neg h2] at h0; cases h0
    · rw [if_neg h1] at h0 ⊢
      by_cases h2 : c = 44
      · rw [if_pos h2] at h0 ⊢
        by_cases h3 : dg = 0 ∨ cf ≤ co + 1
        · rw [if_pos h3]
        · rw [if_neg h3] at h0; cases h0
      · rw [if_neg h2] at h0 ⊢
        by_cases h3 : c = 47
        · rw [if_pos h3] at h0 ⊢
          by_cases h4 : dg = 0 ∨ 10 ≤ r + 1 ∨ ¬ (r = 0 ∨ co + 1 = cf)
          · rw [if_pos h4]
          · rw [if_neg h4] at h0; cases h0
        · rw [if_neg h3]
  · right
    obtain ⟨q1, hq1⟩ : ∃ q1, stp (r, co, cf, dg, nu, g) c = some q1 := by
      cases h : stp (r, co, cf, dg, nu, g) c with
      | none => exact absurd h h0
      | some q1 => exact ⟨q1, rfl⟩
    have hA1 := stp_AB hA hq1
    refine ⟨q1, ?_⟩
    simp only [AB] at hA
    have hq2 := hq1
    simp only [stp] at hq2
    by_cases h1 : 48 ≤ c ∧ c ≤ 57
    · rw [if_pos h1] at hq2
      by_cases h2 : ¬ dg = 0 ∧ (nu = 0 ∨ dg = 4)
      · rw [if_pos h2] at hq2; cases hq2
      · rw [if_neg h2] at hq2
        cases hq2
        refine ⟨_, hq1, stp_d h1 h2, rfl, rfl, rfl, rfl, rfl, fun r2 c2 ht => ?_⟩
        simp only [AB] at hA1
        simp only [Tld] at ht
        show fup g _ _ _ = fup g' _ _ _ ∧ 0 ≤ fup g _ _ _ ∧ fup g _ _ _ ≤ 9999
        unfold fup
        by_cases e : 10 * r2 + c2 = 10 * r + co
        · rw [if_pos e, if_pos e]; exact ⟨rfl, by omega, by omega⟩
        · rw [if_neg e, if_neg e]
          apply hg
          simp only [Tld]
          omega
    · rw [if_neg h1] at hq2
      by_cases h2 : c = 44
      · rw [if_pos h2] at hq2
        by_cases h3 : dg = 0 ∨ cf ≤ co + 1
        · rw [if_pos h3] at hq2; cases hq2
        · rw [if_neg h3] at hq2
          cases hq2
          refine ⟨_, hq1, stp_c h2 h3, rfl, rfl, rfl, rfl, rfl, fun r2 c2 ht => ?_⟩
          simp only [Tld] at ht
          apply hg
          simp only [Tld]
          omega
      · rw [if_neg h2] at hq2
        by_cases h3 : c = 47
        · rw [if_pos h3] at hq2
          by_cases h4 : dg = 0 ∨ 10 ≤ r + 1 ∨ ¬ (r = 0 ∨ co + 1 = cf)
          · rw [if_pos h4] at hq2; cases hq2
          · rw [if_neg h4] at hq2
            cases hq2
            refine ⟨_, hq1, stp_s h3 h4, rfl, rfl, rfl, rfl, rfl, fun r2 c2 ht => ?_⟩
            simp only [Tld] at ht
            apply hg
            simp only [Tld]
            omega
        · rw [if_neg h3] at hq2; cases hq2
theorem rnF_AR {g g' f f' : Int → Int} : ∀ k : Nat, (∀ i : Int, 0 ≤ i → i < k → f i = f' i) → (rnF g f k = none ∧ rnF g' f' k = none) ∨ ∃ q p, rnF g f k = some q ∧ rnF g' f' k = some p ∧ AB q ∧ AR q p
  | 0, _ => Or.inr ⟨_, _, rfl, rfl, by simp [AB], rfl, rfl, rfl, rfl, rfl, fun r c h => by simp only [Tld] at h; omega⟩
  | k + 1, e => by
    rcases rnF_AR (g := g) (g' := g') (f := f) (f' := f') k (fun i a b => e i a (by omega)) with ⟨h1, h2⟩ | ⟨q, p, h1, h2, h3, h4⟩
    · left; simp only [rnF]; rw [h1, h2]; exact ⟨rfl, rfl⟩
    · simp only [rnF]
      rw [h1, h2, e k (by omega) (by omega)]
      rcases stp_AR (c := f' k) h3 h4 with ⟨h5, h6⟩ | ⟨q1, p1, h5, h6, h7⟩
      · exact Or.inl ⟨h5, h6⟩
      · exact Or.inr ⟨q1, p1, h5, h6, stp_AB h3 h5, h7⟩
theorem erF_AR {g g' f f' : Int → Int} : ∀ k : Nat, (∀ i : Int, 0 ≤ i → i < k → f i = f' i) → erF g f k = erF g' f' k
  | 0, _ => rfl
  | k + 1, e => by
    have ih := erF_AR (g := g) (g' := g') (f := f) (f' := f') k (fun i a b => e i a (by omega))
    simp only [erF]
    rcases rnF_AR (g := g) (g' := g') (f := f) (f' := f') (k + 1) e with ⟨h1, h2⟩ | ⟨q, p, h1, h2, -, -⟩
    · rw [h1, h2, ih]
    · rw [h1, h2]; rfl
def gB (l : List Int) : Int → Int := fun i => l.getD i.toNat 0
theorem gB_bf {g : Int → Int} {n i : Int} (h : 0 ≤ i ∧ i < n) : gB (bfC g n) i = g i := by
  unfold gB bfC
  rw [List.getD_eq_getElem?_getD, List.getElem?_map, List.getElem?_range (by omega)]
  show g ((i.toNat : Nat) : Int) = g i
  rw [Int.toNat_of_nonneg h.1]
def oFirst (A : Ab) : Op3 := (0, erF (fun _ => 0) (gB A.2.2.2.2) A.2.2.2.2.length, A)
def ldL (lim C : Int) (g T : Int → Int) : Int → Int := fun i => if (0 ≤ i ∧ i < lim) ∧ i % 10 < C then g i else T i
def oLoad (A : Ab) : Op3 := match rnF (fun _ => 0) (gB A.2.2.2.2) A.2.2.2.2.length with
  | none => (1, 0, A)
  | some q => if 0 < q.2.2.2.1 ∧ (q.1 = 0 ∨ q.2.1 + 1 = q.2.2.1) then (0, 11 * (q.1 + 1) + (q.2.1 + 1), setB (svA A (q.1 + 1, q.2.1 + 1, A.1.2.2.1, A.1.2.2.2.1, A.1.2.2.2.2.1, A.1.2.2.2.2.2.1, ldL (10 * (q.1 + 1)) (q.2.1 + 1) q.2.2.2.2.2 (nT A.1), nW A.1)) []) else (1, 0, A)
theorem first_is {σ : Sg} (hc : CI σ) : erF (σ 17) (σ 16) (σ 15 0).toNat = erF (fun _ => 0) (gB (absC σ).2.2.2.2) (absC σ).2.2.2.2.length := by
  have h := bl hc
  rw [show (absC σ).2.2.2.2.length = (σ 15 0).toNat by omega]
  exact erF_AR _ (fun i a b => (gB_bf ⟨a, by omega⟩).symm)
/-- what the buffer tells, by the reader of the class -/
theorem load_is {σ s : Sg} (hc : CI σ) (hr : ReadP σ s) (ht : TlC σ s) : ∃ p : AS, AR (qs s) p ∧ AB (qs s) ∧ rnF (fun _ => 0) (gB (absC σ).2.2.2.2) (absC σ).2.2.2.2.length = some p := by
  have h := bl hc
  rw [show (absC σ).2.2.2.2.length = (σ 15 0).toNat by omega]
  have h1 := hr.2.2.1
  rw [ht.1] at h1
  rcases rnF_AR (g := σ 17) (g' := fun _ => 0) (f := σ 16) (f' := gB (absC σ).2.2.2.2) (σ 15 0).toNat (fun i a b => (gB_bf ⟨a, by omega⟩).symm) with ⟨h2, -⟩ | ⟨q, p, h2, h3, h4, h5⟩
  · rw [h1] at h2; cases h2
  · rw [h1] at h2
    cases h2
    exact ⟨p, h5, h4, h3⟩
theorem load_no {σ s : Sg} (hc : CI σ) (hr : ReadP σ s) (ht : ¬ TlC σ s) : oLoad (absC σ) = (1, 0, absC σ) := by
  have h := bl hc
  have hl := hc.us.2.2.2.2.2.2.2.2.2.1
  unfold oLoad
  rw [show (absC σ).2.2.2.2.length = (σ 15 0).toNat by omega]
  rcases rnF_AR (g := σ 17) (g' := fun _ => 0) (f := σ 16) (f' := gB (absC σ).2.2.2.2) (σ 15 0).toNat (fun i a b => (gB_bf ⟨a, by omega⟩).symm) with ⟨-, h3⟩ | ⟨q, p, h2, h3, h4, h5⟩
  · rw [h3]
  · rw [h3]
    have he := erF_full h2
    have h1 := hr.2.2.1
    rw [he, show (((σ 15 0).toNat : Nat) : Int).toNat = (σ 15 0).toNat by omega, h2] at h1
    cases h1
    show (if _ then _ else _) = _
    rw [if_neg]
    intro hq
    apply ht
    obtain ⟨e1, e2, e3, e4, -⟩ := h5
    exact ⟨by rw [he]; omega, by rw [show s 15 6 = p.2.2.2.1 from e4]; exact hq.1, by rw [show s 15 3 = p.1 from e1, show s 15 4 = p.2.1 from e2, show s 15 5 = p.2.2.1 from e3]; exact hq.2⟩
theorem ldL_s {lim C v : Int} {g T : Int → Int} (h0 : 0 ≤ lim) (hc : lim % 10 < C) (hv : v = g lim) : fu (ldL lim C g T) lim v = ldL (lim + 1) C g T := by
  subst hv
  funext i
  unfold fu ldL
  by_cases e : i = lim
  · rw [if_pos e, e, if_pos ⟨⟨h0, by omega⟩, hc⟩]
  · rw [if_neg e]
    show (if (0 ≤ i ∧ i < lim) ∧ i % 10 < C then _ else _) = _
    by_cases q : (0 ≤ i ∧ i < lim) ∧ i % 10 < C
    · rw [if_pos q, if_pos (by omega)]
    · rw [if_neg q, if_neg (by omega)]
theorem ldL_k {r C : Int} {g T : Int → Int} (hC : 1 ≤ C ∧ C ≤ 10) : ldL (10 * r + C) C g T = ldL (10 * (r + 1)) C g T := by
  funext i
  unfold ldL
  by_cases q : (0 ≤ i ∧ i < 10 * r + C) ∧ i % 10 < C
  · rw [if_pos q, if_pos (by omega)]
  · rw [if_neg q, if_neg (by omega)]
theorem ldL_0 {C : Int} {g T : Int → Int} : T = ldL (10 * 0) C g T := by
  funext i
  unfold ldL
  rw [if_neg (by omega)]
theorem ldL_c {R C : Int} {g g' T : Int → Int} (h : ∀ r c, 0 ≤ r → r < R → 0 ≤ c → c < C → g (10 * r + c) = g' (10 * r + c)) : ldL (10 * R) C g T = ldL (10 * R) C g' T := by
  funext i
  unfold ldL
  by_cases q : (0 ≤ i ∧ i < 10 * R) ∧ i % 10 < C
  · rw [if_pos q, if_pos q]
    have := h (i / 10) (i % 10) (by omega) (by omega) (by omega) q.2
    rw [show 10 * (i / 10) + i % 10 = i by omega] at this
    exact this
  · rw [if_neg q, if_neg q]
theorem Done.tr {σ υ τ : Sg} {A B : Ab} (h1 : Done σ υ A) (h2 : Done υ τ B) : Done σ τ B := ⟨h2.1, h2.2.1, fun a ha => (h2.2.2 a ha).trans (h1.2.2 a ha)⟩

set_option maxHeartbeats 1000000 in
set_option maxRecDepth 100000 in
theorem tX7_firstError (G : GT) (σ : Sg)  (hci : CI σ) : Ct G mX7_firstError 5 0 0 false (SH Ω) (SH Ω) [Rf G 0] σ (OkP σ (oFirst (absC σ))) := by
  obtain ⟨P, hP⟩ : ∃ P : Option Value → Sg → Prop, P = (OkP σ (oFirst (absC σ))) := ⟨_, rfl⟩
  rw [← hP]
  refine ct_of (lv := [(0, Rf G 0)]) (by decide +kernel) (Nat.le_of_ble_eq_true rfl) rfl ?_
  refine r_aload_n dX7_firstError_0 rfl rfl ?_
  refine r_getR (b := 15) dX7_firstError_1 sh0 rfl (ci := 7) (j := 4) rfl (Nat.le_of_ble_eq_true rfl) ixX7 q135 rfl ?_
  refine r_callV (tX6_readToError G σ  (hci.us.2.2.2.2.2.2.2.2.2.1) (hci.us.2.2.2.2.2.2.2.2.2.2)) dX7_firstError_4 svX6_readToError q589 sh15 (ci := 6) rfl rfl rfl ⟨Nat.le_of_ble_eq_true rfl, Nat.le_of_ble_eq_true rfl⟩ (Nat.le_of_ble_eq_true rfl) ⟨Nat.le_of_ble_eq_true rfl, Nat.le_of_ble_eq_true rfl⟩ ?_
  rintro _ s1 ⟨rfl, hp2⟩
  exact r_iret dX7_firstError_7 rfl (by rw [hP]; exact ⟨rfl, by rw [first_is hci]; rfl, ((((Qs.refl σ)).tr (Qs.rd hp2))).done hci⟩)
