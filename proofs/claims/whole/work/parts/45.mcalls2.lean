
theorem mbl {σ : Sg} (hc : IM σ) : ((absM σ).2.2.2.2.length : Int) = σ 46 6 := bfC_len hc.2.2.1.1
theorem mbuf_done {σ τ : Sg} {l : List Int} (hc : IM σ) (hf : ∀ a, a ≠ 46 → a ≠ 51 → τ a = σ a) (h46 : ∀ j, j ≠ 6 → j ≠ 7 → τ 46 j = σ 46 j) (hn : 0 ≤ τ 46 6 ∧ τ 46 6 ≤ 60) (hl : bfC (τ 51) (τ 46 6) = l) (ho : ∀ c ∈ l, 33 ≤ c ∧ c ≤ 126) : DoneM σ τ (setB (absM σ) l) := by
  have hx : absM τ = setB (absM σ) l := by
    unfold absM setB
    rw [hl, hf 47 (by decide) (by decide), hiM_c (hf 48 (by decide) (by decide)) (h46 2 (by decide) (by decide)), slM_c (hf 49 (by decide) (by decide)) (hf 50 (by decide) (by decide)), slM_c (hf 49 (by decide) (by decide)) (hf 50 (by decide) (by decide))]
  obtain ⟨a1, a2, a3, a4, a6, a7, a8, a9, a10, a11, a12⟩ := hc
  refine ⟨⟨?_, ?_, hn, ?_, ?_⟩, hx, fun a ha => hf a (by omega) (by omega)⟩
  · unfold P52; rw [hf 52 (by decide) (by decide)]; exact a1
  · rw [h46 2 (by decide) (by decide)]; exact a2
  · rw [hf 50 (by decide) (by decide)]; exact a4
  · rw [hx]
    refine ⟨a6, a7, a8, a9, a10, ?_, ho⟩
    have := bfC_len (g := τ 51) hn.1
    rw [hl] at this
    show l.length ≤ 60
    omega
theorem aftX {σ ρ s τ : Sg} (hc : IM σ) (hq : Qm σ ρ) (hs : SavM ρ s) (hn : Nm s τ) (h6 : τ 46 6 = σ 46 6) (x : St) (hx : st0 (τ 47) = x) (hO : OkS x) : DoneM σ τ (svA (absM σ) x) := by
  subst hx
  exact aftN hc hq hs hn h6 (st0 (τ 47)) rfl rfl rfl rfl rfl rfl (fun i a b => tM_at ⟨a, b⟩) (fun i a b => (rs_at (f := fun i => τ 47 (6 + i)) ⟨a, b⟩).symm) hO
theorem ly_st {s : Sg} {a : Nat} {p : Int} (ha : a ≠ 47) (hn : s a (p + 5) ≤ 10) : st0 (lyS s a 47 p 0 116 47) = st0 (fun i => s a (p + i)) := by
  apply st0_c
  · intro i h1 h2
    rw [ly_at, if_pos (by omega), Int.sub_zero]
  · exact hn
theorem keep_m {σ τ : Sg} {k : Int} (hc : IM σ) (hk : k = 0 ∨ k = 1) (hf : ∀ a, a ≠ 46 → a ≠ 49 → a ≠ 50 → τ a = σ a) (h46 : ∀ j, j ≠ 7 → τ 46 j = σ 46 j) (h50 : τ 50 k = 1) (h50' : ∀ j, j ≠ k → τ 50 j = σ 50 j) (h49 : ∀ j, τ 49 j = if 116 * k ≤ j ∧ j < 116 * k + 116 then σ 47 (0 + (j - 116 * k)) else σ 49 j) :
    (oKeep (absM σ) k).1 = 0 ∧ (oKeep (absM σ) k).2.1 = σ 47 0 ∧ DoneM σ τ (oKeep (absM σ) k).2.2 := by
  have hn := hc.us.2.2.1
  obtain ⟨a1, a2, a3, a4, a6, a7, a8, a9, a10, a11, a12⟩ := hc
  have hm : slM τ k = some (st0 (σ 47)) := by
    unfold slM
    rw [if_pos h50]
    congr 1
    apply st0_c
    · intro i p q
      show τ 49 (116 * k + i) = _
      rw [h49, if_pos (by omega)]; congr 1; omega
    · exact hn.2
  have ho : ∀ e, e ≠ k → (e = 0 ∨ e = 1) → slM τ e = slM σ e := by
    intro e h1 h2
    unfold slM
    rw [h50' e h1]
    by_cases c : σ 50 e = 1
    · rw [if_pos c, if_pos c]
      congr 1
      apply st0_c
      · intro i p q
        show τ 49 (116 * e + i) = _
        rw [h49, if_neg (by omega)]
      · have hx : slM σ e = some (st0 (fun i => σ 49 (116 * e + i))) := by unfold slM; rw [if_pos c]
        rcases h2 with rfl | rfl
        · exact (a8 _ hx).2.2.1.2
        · exact (a9 _ hx).2.2.1.2
    · rw [if_neg c, if_neg c]
  rcases hk with rfl | rfl
  · have hx : absM τ = ((absM σ).1, (absM σ).2.1, some (absM σ).1, (absM σ).2.2.2) := by
      unfold absM
      rw [hm, ho 1 (by decide) (by decide), hf 47 (by decide) (by decide) (by decide), hf 51 (by decide) (by decide) (by decide), hiM_c (hf 48 (by decide) (by decide) (by decide)) (h46 2 (by decide)), h46 6 (by decide)]
    refine ⟨rfl, rfl, ⟨?_, ?_, ?_, ?_, ?_⟩, hx, fun a ha => hf a (by omega) (by omega) (by omega)⟩
    · unfold P52; rw [hf 52 (by decide) (by decide) (by decide)]; exact a1
    · rw [h46 2 (by decide)]; exact a2
    · rw [h46 6 (by decide)]; exact a3
    · rw [h50, h50' 1 (by decide)]; exact ⟨Or.inr rfl, a4.2⟩
    · rw [hx]; exact ⟨a6, a7, fun x h => by cases h; exact a6, a9, a10, a11, a12⟩
  · have hx : absM τ = ((absM σ).1, (absM σ).2.1, (absM σ).2.2.1, some (absM σ).1, (absM σ).2.2.2.2) := by
      unfold absM
      rw [hm, ho 0 (by decide) (by decide), hf 47 (by decide) (by decide) (by decide), hf 51 (by decide) (by decide) (by decide), hiM_c (hf 48 (by decide) (by decide) (by decide)) (h46 2 (by decide)), h46 6 (by decide)]
    refine ⟨rfl, rfl, ⟨?_, ?_, ?_, ?_, ?_⟩, hx, fun a ha => hf a (by omega) (by omega) (by omega)⟩
    · unfold P52; rw [hf 52 (by decide) (by decide) (by decide)]; exact a1
    · rw [h46 2 (by decide)]; exact a2
    · rw [h46 6 (by decide)]; exact a3
    · rw [h50, h50' 0 (by decide)]; exact ⟨a4.1, Or.inr rfl⟩
    · rw [hx]; exact ⟨a6, a7, a8, fun x h => by cases h; exact a6, a10, a11, a12⟩
theorem keep_no {A : Ab} {k : Int} (h : ¬ (0 ≤ k ∧ k ≤ 1)) : oKeep A k = (1, 0, A) := by
  unfold oKeep
  rw [if_neg (by omega), if_neg (by omega)]
theorem back_no {A : Ab} {k : Int} (h : ¬ (0 ≤ k ∧ k ≤ 1)) : oBack A k = (1, 0, A) := by
  unfold oBack
  rw [if_neg (by omega), if_neg (by omega)]
theorem back_em {σ : Sg} {k : Int} (hk : 0 ≤ k ∧ k ≤ 1) (h : σ 50 k = 0) : oBack (absM σ) k = (2, 0, absM σ) := by
  have hy : k = 0 ∨ k = 1 := by omega
  have hm : slM σ k = none := by unfold slM; rw [if_neg (by omega)]
  rcases hy with rfl | rfl
  · show bkA (absM σ) (slM σ 0) = _; rw [hm]; rfl
  · show bkA (absM σ) (slM σ 1) = _; rw [hm]; rfl
theorem back_m {σ ρ s : Sg} {k : Int} (hc : IM σ) (hq : Qm σ ρ) (hs : SavM ρ s) (hr : ρ 46 7 = 0) (hk : 0 ≤ k ∧ k ≤ 1) (h : ¬ σ 50 k = 0) : MkP σ (oBack (absM σ) k) (some (I (lyS s 49 47 (116 * k) 0 116 47 0))) (lyS s 49 47 (116 * k) 0 116) := by
  have hy : k = 0 ∨ k = 1 := by omega
  have h1 : σ 50 k = 1 := by
    have := hc.2.2.2.1
    rcases hy with rfl | rfl
    · have := this.1; omega
    · have := this.2; omega
  have hm : slM σ k = some (st0 (fun i => σ 49 (116 * k + i))) := by unfold slM; rw [if_pos h1]
  have hb : oBack (absM σ) k = (0, (st0 (fun i => σ 49 (116 * k + i))).1, svA (absM σ) (st0 (fun i => σ 49 (116 * k + i)))) := by
    rcases hy with rfl | rfl
    · show bkA (absM σ) (slM σ 0) = _; rw [hm]; rfl
    · show bkA (absM σ) (slM σ 1) = _; rw [hm]; rfl
  have hO : OkS (st0 (fun i => σ 49 (116 * k + i))) := by
    rcases hy with rfl | rfl
    · exact hc.2.2.2.2.2.2.1 _ hm
    · exact hc.2.2.2.2.2.2.2.1 _ hm
  have e49 : s 49 = σ 49 := by rw [hs.1 49 (by decide) (by decide), hq.1 49 (by omega)]
  have hst : st0 (lyS s 49 47 (116 * k) 0 116 47) = st0 (fun i => σ 49 (116 * k + i)) := by
    rw [ly_st (by decide) (by rw [e49]; exact hO.2.2.1.2), e49]
  refine ⟨?_, ?_, ?_⟩
  · rw [hb]; show some (I (st0 (fun i => σ 49 (116 * k + i))).1) = some (I (st0 (lyS s 49 47 (116 * k) 0 116 47)).1); rw [hst]
  · rw [hb, ly_ne (by decide), hs.2.1 7 (by decide), hr]
  · rw [hb]
    refine aftX hc hq hs ⟨fun a ha => ly_ne (by omega), by rw [ly_ne (by decide)], fun q x => by show -1 ≤ lyS s 49 47 (116 * k) 0 116 52 x ∧ lyS s 49 47 (116 * k) 0 116 52 x ≤ 9; rw [ly_ne (by decide)]; exact q x⟩ ?_ _ hst hO
    rw [ly_ne (by decide), hs.2.1 6 (by decide), hq.2.1.2]
theorem undo_em {σ : Sg} (h : σ 46 2 = 0) : oUndo (absM σ) = (1, 0, absM σ) := by
  have e : (absM σ).2.1 = [] := by
    show hiM σ = []
    unfold hiM; rw [h]; rfl
  unfold oUndo
  rw [if_pos e]
theorem undo_m {σ τ : Sg} (hc : IM σ) (h : ¬ σ 46 2 = 0) (hτ : τ = lyS (up (up σ 46 7 0) 46 2 (σ 46 2 - 1)) 48 47 (116 * (σ 46 2 - 1)) 0 116) : MkP σ (oUndo (absM σ)) (some (I (σ 46 2 - 1))) τ := by
  have h2 := hc.2.1
  obtain ⟨n, hn⟩ : ∃ n : Nat, (σ 46 2).toNat = n + 1 := ⟨(σ 46 2).toNat - 1, by omega⟩
  have hhi : hiM σ = (List.range (n + 1)).map (fun (r : Nat) => st0 (fun i => σ 48 (116 * (r : Int) + i))) := by unfold hiM; rw [hn]
  have hlen : ((absM σ).2.1.length : Int) = σ 46 2 := by show ((hiM σ).length : Int) = _; rw [hhi, List.length_map, List.length_range]; omega
  have hne : (absM σ).2.1 ≠ [] := fun q => by rw [q] at hlen; simp at hlen; omega
  have hl : (absM σ).2.1.getLastD (absM σ).1 = st0 (fun i => σ 48 (116 * (n : Int) + i)) := by
    show (hiM σ).getLastD _ = _
    rw [hhi, map_gl]
  have hd : (absM σ).2.1.dropLast = (List.range n).map (fun (r : Nat) => st0 (fun i => σ 48 (116 * (r : Int) + i))) := by
    show (hiM σ).dropLast = _
    rw [hhi, map_dl]
  have hO : OkS (st0 (fun i => σ 48 (116 * (n : Int) + i))) := by
    apply hc.2.2.2.2.2.1
    show _ ∈ hiM σ
    rw [hhi]
    exact List.mem_map.mpr ⟨n, List.mem_range.mpr (by omega), rfl⟩
  have hf : ∀ b, b ≠ 46 → b ≠ 47 → τ b = σ b := fun b p q => by rw [hτ, ly_ne q, up_ne p, up_ne p]
  have h46 : ∀ j, j ≠ 2 → j ≠ 7 → τ 46 j = σ 46 j := fun j p q => by rw [hτ, ly_ne (by decide), up_nj p, up_nj q]
  have t2 : τ 46 2 = σ 46 2 - 1 := by rw [hτ, ly_ne (by decide), up_eq]
  have hst : st0 (τ 47) = st0 (fun i => σ 48 (116 * (n : Int) + i)) := by
    have e48 : up (up σ 46 7 0) 46 2 (σ 46 2 - 1) 48 = σ 48 := by rw [up_ne (by decide), up_ne (by decide)]
    rw [hτ, ly_st (by decide) (by rw [e48, show σ 46 2 - 1 = (n : Int) by omega]; exact hO.2.2.1.2), e48, show σ 46 2 - 1 = (n : Int) by omega]
  have hx : absM τ = ((absM σ).2.1.getLastD (absM σ).1, (absM σ).2.1.dropLast, (absM σ).2.2) := by
    have e2 : hiM τ = (List.range n).map (fun (r : Nat) => st0 (fun i => σ 48 (116 * (r : Int) + i))) := by
      unfold hiM
      rw [t2, show (σ 46 2 - 1).toNat = n by omega, hf 48 (by decide) (by decide)]
    rw [hl, hd]
    unfold absM
    rw [hst, e2, slM_c (hf 49 (by decide) (by decide)) (hf 50 (by decide) (by decide)), slM_c (hf 49 (by decide) (by decide)) (hf 50 (by decide) (by decide)), hf 51 (by decide) (by decide), h46 6 (by decide) (by decide)]
  obtain ⟨a1, a2, a3, a4, a6, a7, a8, a9, a10, a11, a12⟩ := hc
  unfold MkP oUndo
  rw [if_neg hne]
  refine ⟨by rw [hlen], by rw [hτ, ly_ne (by decide), up_nj (by decide), up_eq], ⟨?_, ?_, ?_, ?_, ?_⟩, hx, fun a ha => hf a (by omega) (by omega)⟩
  · unfold P52; rw [hf 52 (by decide) (by decide)]; exact a1
  · rw [t2]; omega
  · rw [h46 6 (by decide) (by decide)]; exact a3
  · rw [hf 50 (by decide) (by decide)]; exact a4
  · rw [hx]
    refine ⟨by rw [hl]; exact hO, fun x hx => a7 x ((List.dropLast_sublist _).subset hx), a8, a9, ?_, a11, a12⟩
    show (absM σ).2.1.dropLast.length ≤ 6
    rw [List.length_dropLast]
    omega
theorem tM_fu {f : Int → Int} {m v : Int} (hm : 0 ≤ m ∧ m < 100) : tM (fu f (16 + m) v) = fu (tM f) m v := by
  funext i
  unfold tM fu
  by_cases c : 0 ≤ i ∧ i < 100
  · rw [if_pos c]
    by_cases e : i = m
    · rw [if_pos (by omega), if_pos e]
    · rw [if_neg (by omega), if_neg e]; show _ = if 0 ≤ i ∧ i < 100 then _ else _; rw [if_pos c]
  · rw [if_neg c, if_neg (by omega)]; show _ = if 0 ≤ i ∧ i < 100 then _ else _; rw [if_neg c]
theorem ptL_n {k C a b c d : Int} {T : Int → Int} (h : ¬ k % 10 < C) : ptL (k + 1) C a b c d T = ptL k C a b c d T := by
  funext i
  unfold ptL
  by_cases q : (0 ≤ i ∧ i < k) ∧ i % 10 < C
  · rw [if_pos q, if_pos (by omega)]
  · rw [if_neg q, if_neg (fun z => q ⟨⟨z.1.1, by
      rcases (show i < k ∨ i = k by omega) with y | y
      · exact y
      · exact absurd z.2 (by rw [y]; exact h)⟩, z.2⟩)]

set_option maxHeartbeats 1000000 in
set_option maxRecDepth 100000 in
theorem tX8_append (G : GT) (σ : Sg) (c : Int) (hmi : IM σ) (hrg : (-2147483648 ≤ c ∧ c ≤ 2147483647)) : Ct G mX8_append 2 0 0 false SH SH [Rf G 46, I c] σ (MkP σ (oAppend (absM σ) c)) := by
  obtain ⟨P, hP⟩ : ∃ P : Option Value → Sg → Prop, P = (MkP σ (oAppend (absM σ) c)) := ⟨_, rfl⟩
  rw [← hP]
  refine ct_of (lv := [(0, Rf G 46), (1, I c)]) (by decide +kernel) (Nat.le_of_ble_eq_true rfl) rfl ?_
  obtain ⟨hR, hC, hn, hT, hwt, hp52, h2, h6, hbf⟩ := hmi.us
  have hO9 : OkS (st0 (σ 47)) := hmi.2.2.2.2.1
  have hbl := mbl hmi
  refine r_aload_n dX8_append_0 rfl rfl ?_
  refine r_iconst dX8_append_1 ?_
  refine r_putI (z := 7) tyX8 dX8_append_2 sh46 rfl (ci := 8) (j := 7) rfl (Nat.le_of_ble_eq_true rfl) rfl tyX8_ok nmX8 ixX8 q649 rfl rfl rfl ?_
  refine r_iload_n dX8_append_5 rfl rfl ?_
  refine r_bipush dX8_append_6 rfl ?_
  refine r_bipush dX8_append_8 rfl ?_
  refine r_callS (tX8_in G (up σ 46 7 0) c 33 126 (by omega)) dX8_append_10 svX8_in q671 rfl ⟨Nat.le_of_ble_eq_true rfl, Nat.le_of_ble_eq_true rfl⟩ (Nat.le_of_ble_eq_true rfl) ⟨Nat.le_of_ble_eq_true rfl, Nat.le_of_ble_eq_true rfl⟩ ?_
  rintro _ _ ⟨⟨hq1, rfl⟩ | ⟨hq1, rfl⟩, rfl⟩
  · skip
    refine r_if_ne (tgt := 22) dX8_append_13 (by decide) (by omega) (fun hb2 => ?_) (fun hb2 => ?_)
    · skip
      refine r_aload_n dX8_append_22 rfl rfl ?_
      refine r_getI (z := 6) dX8_append_23 sh46 rfl (ci := 8) (j := 6) rfl (Nat.le_of_ble_eq_true rfl) rfl ixX8 q648 rfl (hv := up_nj (by decide)) ?_
      refine r_bipush dX8_append_26 rfl ?_
      refine r_icmp_ne (tgt := 37) dX8_append_28 (by decide) (by omega) (fun hb3 => ?_) (fun hb3 => ?_)
      · skip
        refine r_aload_n dX8_append_37 rfl rfl ?_
        refine r_getR (b := 51) dX8_append_38 sh46 rfl (ci := 8) (j := 5) rfl (Nat.le_of_ble_eq_true rfl) ixX8 q647 rfl ?_
        refine r_aload_n dX8_append_41 rfl rfl ?_
        refine r_getI (z := 6) dX8_append_42 sh46 rfl (ci := 8) (j := 6) rfl (Nat.le_of_ble_eq_true rfl) rfl ixX8 q648 rfl (hv := up_nj (by decide)) ?_
        refine r_iload_n dX8_append_45 rfl rfl ?_
        refine r_iast dX8_append_46 sh51 (by omega) ?_
        refine r_aload_n dX8_append_47 rfl rfl ?_
        refine r_dup dX8_append_48 rfl ?_
        refine r_getI (z := 6) dX8_append_49 sh46 rfl (ci := 8) (j := 6) rfl (Nat.le_of_ble_eq_true rfl) rfl ixX8 q648 rfl (hv := (congrFun (up_ne (by decide)) 6).trans (up_nj (by decide))) ?_
        refine r_iconst dX8_append_52 ?_
        refine r_iadd dX8_append_53 ?_
        refine r_putI (z := 6) tyX8 dX8_append_54 sh46 rfl (ci := 8) (j := 6) rfl (Nat.le_of_ble_eq_true rfl) rfl tyX8_ok nmX8 ixX8 q648 rfl rfl rfl ?_
        refine r_aload_n dX8_append_57 rfl rfl ?_
        refine r_getI (z := 6) dX8_append_58 sh46 rfl (ci := 8) (j := 6) rfl (Nat.le_of_ble_eq_true rfl) rfl ixX8 q648 rfl (hv := up_eq) ?_
        exact r_iret dX8_append_61 rfl (by rw [hP]; exact by rw [oAppend_m, if_pos (by omega), if_neg (by omega)]; exact ⟨by rw [hbl], ((up_nj (by decide)).trans ((congrFun (up_ne (by decide)) 7).trans (up_eq))), mbuf_done hmi (fun a p q => by rw [up_ne p, up_ne q, up_ne p]) (fun j p q => by rw [up_nj p, up_ne (by decide), up_nj q]) (by rw [up_eq]; omega) (by rw [up_ne (by decide), fu_up, up_eq, up_ne (by decide)]; exact bfC_add h6.1) (fun d hd => by rcases List.mem_append.mp hd with h | h; exact hmi.2.2.2.2.2.2.2.2.2.2 d h; rw [List.mem_singleton.mp h]; omega)⟩)
      · skip
        refine r_aload_n dX8_append_31 rfl rfl ?_
        refine r_iconst dX8_append_32 ?_
        refine r_callV (tX8_refuses G (up σ 46 7 0) 2) dX8_append_33 svX8_refuses q674 sh46 (ci := 8) rfl rfl rfl ⟨Nat.le_of_ble_eq_true rfl, Nat.le_of_ble_eq_true rfl⟩ (Nat.le_of_ble_eq_true rfl) ⟨Nat.le_of_ble_eq_true rfl, Nat.le_of_ble_eq_true rfl⟩ ?_
        rintro _ _ ⟨rfl, rfl⟩
        exact r_iret dX8_append_36 rfl (by rw [hP]; exact by rw [oAppend_m]; first | (rw [if_neg (by omega)]; exact ⟨rfl, up_eq, ((((Qm.refl σ).tr (Qm.u7 (σ := σ) (j := 7) (v := 0) (by decide))).tr (Qm.u7 (σ := (up σ 46 7 0)) (j := 7) (v := 2) (by decide)))).done hmi⟩) | (rw [if_pos (by omega), if_neg (by omega)]; exact ⟨rfl, up_eq, ((((Qm.refl σ).tr (Qm.u7 (σ := σ) (j := 7) (v := 0) (by decide))).tr (Qm.u7 (σ := (up σ 46 7 0)) (j := 7) (v := 2) (by decide)))).done hmi⟩) | (rw [if_pos (by omega), if_pos (by omega)]; exact ⟨rfl, up_eq, ((((Qm.refl σ).tr (Qm.u7 (σ := σ) (j := 7) (v := 0) (by decide))).tr (Qm.u7 (σ := (up σ 46 7 0)) (j := 7) (v := 2) (by decide)))).done hmi⟩))
    · skip
      exact absurd hb2 (by omega)
  · skip
    refine r_if_ne (tgt := 22) dX8_append_13 (by decide) (by omega) (fun hb4 => ?_) (fun hb4 => ?_)
    · skip
      exact absurd hb4 (by omega)
    · skip
      refine r_aload_n dX8_append_16 rfl rfl ?_
      refine r_iconst dX8_append_17 ?_
      refine r_callV (tX8_refuses G (up σ 46 7 0) 1) dX8_append_18 svX8_refuses q674 sh46 (ci := 8) rfl rfl rfl ⟨Nat.le_of_ble_eq_true rfl, Nat.le_of_ble_eq_true rfl⟩ (Nat.le_of_ble_eq_true rfl) ⟨Nat.le_of_ble_eq_true rfl, Nat.le_of_ble_eq_true rfl⟩ ?_
      rintro _ _ ⟨rfl, rfl⟩
      exact r_iret dX8_append_21 rfl (by rw [hP]; exact by rw [oAppend_m]; first | (rw [if_neg (by omega)]; exact ⟨rfl, up_eq, ((((Qm.refl σ).tr (Qm.u7 (σ := σ) (j := 7) (v := 0) (by decide))).tr (Qm.u7 (σ := (up σ 46 7 0)) (j := 7) (v := 1) (by decide)))).done hmi⟩) | (rw [if_pos (by omega), if_neg (by omega)]; exact ⟨rfl, up_eq, ((((Qm.refl σ).tr (Qm.u7 (σ := σ) (j := 7) (v := 0) (by decide))).tr (Qm.u7 (σ := (up σ 46 7 0)) (j := 7) (v := 1) (by decide)))).done hmi⟩) | (rw [if_pos (by omega), if_pos (by omega)]; exact ⟨rfl, up_eq, ((((Qm.refl σ).tr (Qm.u7 (σ := σ) (j := 7) (v := 0) (by decide))).tr (Qm.u7 (σ := (up σ 46 7 0)) (j := 7) (v := 1) (by decide)))).done hmi⟩))
set_option maxHeartbeats 1000000 in
set_option maxRecDepth 100000 in
theorem tX8_clearBuffer (G : GT) (σ : Sg)  (hmi : IM σ) : Ct G mX8_clearBuffer 1 0 0 false SH SH [Rf G 46] σ (MkP σ (oClear (absM σ))) := by
  obtain ⟨P, hP⟩ : ∃ P : Option Value → Sg → Prop, P = (MkP σ (oClear (absM σ))) := ⟨_, rfl⟩
  rw [← hP]
  refine ct_of (lv := [(0, Rf G 46)]) (by decide +kernel) (Nat.le_of_ble_eq_true rfl) rfl ?_
  obtain ⟨hR, hC, hn, hT, hwt, hp52, h2, h6, hbf⟩ := hmi.us
  have hO9 : OkS (st0 (σ 47)) := hmi.2.2.2.2.1
  have hbl := mbl hmi
  refine r_aload_n dX8_clearBuffer_0 rfl rfl ?_
  refine r_iconst dX8_clearBuffer_1 ?_
  refine r_putI (z := 7) tyX8 dX8_clearBuffer_2 sh46 rfl (ci := 8) (j := 7) rfl (Nat.le_of_ble_eq_true rfl) rfl tyX8_ok nmX8 ixX8 q649 rfl rfl rfl ?_
  refine r_aload_n dX8_clearBuffer_5 rfl rfl ?_
  refine r_getI (z := 6) dX8_clearBuffer_6 sh46 rfl (ci := 8) (j := 6) rfl (Nat.le_of_ble_eq_true rfl) rfl ixX8 q648 rfl (hv := up_nj (by decide)) ?_
  refine r_istore_n (lv' := [(0, Rf G 46), (1, I (σ 46 6))]) dX8_clearBuffer_9 rfl (Nat.le_of_ble_eq_true rfl) rfl ?_
  refine r_aload_n dX8_clearBuffer_10 rfl rfl ?_
  refine r_iconst dX8_clearBuffer_11 ?_
  refine r_putI (z := 6) tyX8 dX8_clearBuffer_12 sh46 rfl (ci := 8) (j := 6) rfl (Nat.le_of_ble_eq_true rfl) rfl tyX8_ok nmX8 ixX8 q648 rfl rfl rfl ?_
  refine r_iload_n dX8_clearBuffer_15 rfl rfl ?_
  exact r_iret dX8_clearBuffer_16 rfl (by rw [hP]; exact ⟨by rw [← hbl]; rfl, ((up_nj (by decide)).trans (up_eq)), mbuf_done hmi (fun a p q => by rw [up_ne p, up_ne p]) (fun j p q => by rw [up_nj p, up_nj q]) (by rw [up_eq]; omega) (by rw [up_eq]; rfl) (fun d hd => by cases hd)⟩)
set_option maxHeartbeats 1000000 in
set_option maxRecDepth 100000 in
theorem tX8_keep (G : GT) (σ : Sg) (k : Int) (hmi : IM σ) (hrg : (-2147483648 ≤ k ∧ k ≤ 2147483647)) : Ct G mX8_keep 2 0 0 false SH SH [Rf G 46, I k] σ (MkP σ (oKeep (absM σ) k)) := by
  obtain ⟨P, hP⟩ : ∃ P : Option Value → Sg → Prop, P = (MkP σ (oKeep (absM σ) k)) := ⟨_, rfl⟩
  rw [← hP]
  refine ct_of (lv := [(0, Rf G 46), (1, I k)]) (by decide +kernel) (Nat.le_of_ble_eq_true rfl) rfl ?_
  obtain ⟨hR, hC, hn, hT, hwt, hp52, h2, h6, hbf⟩ := hmi.us
  have hO9 : OkS (st0 (σ 47)) := hmi.2.2.2.2.1
  refine r_aload_n dX8_keep_0 rfl rfl ?_
  refine r_iconst dX8_keep_1 ?_
  refine r_putI (z := 7) tyX8 dX8_keep_2 sh46 rfl (ci := 8) (j := 7) rfl (Nat.le_of_ble_eq_true rfl) rfl tyX8_ok nmX8 ixX8 q649 rfl rfl rfl ?_
  refine r_iload_n dX8_keep_5 rfl rfl ?_
  refine r_iconst dX8_keep_6 ?_
  refine r_iconst dX8_keep_7 ?_
  refine r_callS (tX8_in G (up σ 46 7 0) k 0 1 (by omega)) dX8_keep_8 svX8_in q671 rfl ⟨Nat.le_of_ble_eq_true rfl, Nat.le_of_ble_eq_true rfl⟩ (Nat.le_of_ble_eq_true rfl) ⟨Nat.le_of_ble_eq_true rfl, Nat.le_of_ble_eq_true rfl⟩ ?_
  rintro _ _ ⟨⟨hq1, rfl⟩ | ⟨hq1, rfl⟩, rfl⟩
  · skip
    refine r_if_ne (tgt := 20) dX8_keep_11 (by decide) (by omega) (fun hb2 => ?_) (fun hb2 => ?_)
    · skip
      refine r_aload_n dX8_keep_20 rfl rfl ?_
      refine r_getR (b := 47) dX8_keep_21 sh46 rfl (ci := 8) (j := 0) rfl (Nat.le_of_ble_eq_true rfl) ixX8 q642 rfl ?_
      refine r_iconst dX8_keep_24 ?_
      refine r_aload_n dX8_keep_25 rfl rfl ?_
      refine r_getR (b := 49) dX8_keep_26 sh46 rfl (ci := 8) (j := 3) rfl (Nat.le_of_ble_eq_true rfl) ixX8 q645 rfl ?_
      refine r_bipush dX8_keep_29 rfl ?_
      refine r_iload_n dX8_keep_31 rfl rfl ?_
      refine r_imul dX8_keep_32 ?_
      refine r_callS (tX8_lays G (up σ 46 7 0) 47 0 49 (116 * k) 116 232 (sh47) (sh49) (by decide) (by omega)) dX8_keep_33 svX8_lays q680 rfl ⟨Nat.le_of_ble_eq_true rfl, Nat.le_of_ble_eq_true rfl⟩ (Nat.le_of_ble_eq_true rfl) ⟨Nat.le_of_ble_eq_true rfl, Nat.le_of_ble_eq_true rfl⟩ ?_
      rintro _ _ ⟨rfl, rfl⟩
      refine r_aload_n dX8_keep_36 rfl rfl ?_
      refine r_getR (b := 50) dX8_keep_37 sh46 rfl (ci := 8) (j := 4) rfl (Nat.le_of_ble_eq_true rfl) ixX8 q646 rfl ?_
      refine r_iload_n dX8_keep_40 rfl rfl ?_
      refine r_iconst dX8_keep_41 ?_
      refine r_iast dX8_keep_42 sh50 (by omega) ?_
      refine r_aload_n dX8_keep_43 rfl rfl ?_
      refine r_getR (b := 47) dX8_keep_44 sh46 rfl (ci := 8) (j := 0) rfl (Nat.le_of_ble_eq_true rfl) ixX8 q642 rfl ?_
      refine r_iconst dX8_keep_47 ?_
      refine r_iald dX8_keep_48 sh47 (by omega) (hv := congrFun (up_ne (by decide)) 0) ?_
      exact r_iret dX8_keep_49 rfl (by rw [hP]; exact by obtain ⟨k1, k2, k3⟩ := keep_m (τ := up (lyS (up σ 46 7 0) 47 49 0 (116 * k) 116) 50 k 1) hmi (by omega) (fun a p q r => by rw [up_ne r, ly_ne q, up_ne p]) (fun j p => by rw [up_ne (by decide), ly_ne (by decide), up_nj p]) up_eq (fun j p => by rw [up_nj p, ly_ne (by decide), up_ne (by decide)]) (fun j => by rw [up_ne (by decide), ly_at, up_ne (by decide), up_ne (by decide)]); exact ⟨by rw [k2, ly_ne (by decide), up_ne (by decide)], by rw [k1, up_ne (by decide), ly_ne (by decide), up_eq], k3⟩)
    · skip
      exact absurd hb2 (by omega)
  · skip
    refine r_if_ne (tgt := 20) dX8_keep_11 (by decide) (by omega) (fun hb3 => ?_) (fun hb3 => ?_)
    · skip
      exact absurd hb3 (by omega)
    · skip
      refine r_aload_n dX8_keep_14 rfl rfl ?_
      refine r_iconst dX8_keep_15 ?_
      refine r_callV (tX8_refuses G (up σ 46 7 0) 1) dX8_keep_16 svX8_refuses q674 sh46 (ci := 8) rfl rfl rfl ⟨Nat.le_of_ble_eq_true rfl, Nat.le_of_ble_eq_true rfl⟩ (Nat.le_of_ble_eq_true rfl) ⟨Nat.le_of_ble_eq_true rfl, Nat.le_of_ble_eq_true rfl⟩ ?_
      rintro _ _ ⟨rfl, rfl⟩
      exact r_iret dX8_keep_19 rfl (by rw [hP]; exact by rw [keep_no (by omega)]; exact ⟨rfl, up_eq, ((((Qm.refl σ).tr (Qm.u7 (σ := σ) (j := 7) (v := 0) (by decide))).tr (Qm.u7 (σ := (up σ 46 7 0)) (j := 7) (v := 1) (by decide)))).done hmi⟩)
set_option maxHeartbeats 1000000 in
set_option maxRecDepth 100000 in
theorem tX8_goBack (G : GT) (σ : Sg) (k : Int) (hmi : IM σ) (hrg : (-2147483648 ≤ k ∧ k ≤ 2147483647)) : Ct G mX8_goBack 3 0 0 false SH SH [Rf G 46, I k] σ (MkP σ (oBack (absM σ) k)) := by
  obtain ⟨P, hP⟩ : ∃ P : Option Value → Sg → Prop, P = (MkP σ (oBack (absM σ) k)) := ⟨_, rfl⟩
  rw [← hP]
  refine ct_of (lv := [(0, Rf G 46), (1, I k)]) (by decide +kernel) (Nat.le_of_ble_eq_true rfl) rfl ?_
  obtain ⟨hR, hC, hn, hT, hwt, hp52, h2, h6, hbf⟩ := hmi.us
  have hO9 : OkS (st0 (σ 47)) := hmi.2.2.2.2.1
  refine r_aload_n dX8_goBack_0 rfl rfl ?_
  refine r_iconst dX8_goBack_1 ?_
  refine r_putI (z := 7) tyX8 dX8_goBack_2 sh46 rfl (ci := 8) (j := 7) rfl (Nat.le_of_ble_eq_true rfl) rfl tyX8_ok nmX8 ixX8 q649 rfl rfl rfl ?_
  refine r_iload_n dX8_goBack_5 rfl rfl ?_
  refine r_iconst dX8_goBack_6 ?_
  refine r_iconst dX8_goBack_7 ?_
  refine r_callS (tX8_in G (up σ 46 7 0) k 0 1 (by omega)) dX8_goBack_8 svX8_in q671 rfl ⟨Nat.le_of_ble_eq_true rfl, Nat.le_of_ble_eq_true rfl⟩ (Nat.le_of_ble_eq_true rfl) ⟨Nat.le_of_ble_eq_true rfl, Nat.le_of_ble_eq_true rfl⟩ ?_
  rintro _ _ ⟨⟨hq1, rfl⟩ | ⟨hq1, rfl⟩, rfl⟩
  · skip
    refine r_if_ne (tgt := 20) dX8_goBack_11 (by decide) (by omega) (fun hb2 => ?_) (fun hb2 => ?_)
    · skip
      refine r_aload_n dX8_goBack_20 rfl rfl ?_
      refine r_getR (b := 50) dX8_goBack_21 sh46 rfl (ci := 8) (j := 4) rfl (Nat.le_of_ble_eq_true rfl) ixX8 q646 rfl ?_
      refine r_iload_n dX8_goBack_24 rfl rfl ?_
      refine r_iald dX8_goBack_25 sh50 (by omega) (hv := congrFun (up_ne (by decide)) k) ?_
      have hf9 : σ 50 k = 0 ∨ σ 50 k = 1 := by rcases (show k = 0 ∨ k = 1 by omega) with e | e; (rw [e]; exact hmi.2.2.2.1.1); (rw [e]; exact hmi.2.2.2.1.2)
      refine r_if_ne (tgt := 35) dX8_goBack_26 (by decide) (by omega) (fun hb3 => ?_) (fun hb3 => ?_)
      · skip
        refine r_aload_n dX8_goBack_35 rfl rfl ?_
        refine r_callV (tX8_saves G (up σ 46 7 0)  (((Qm.u7 (σ := σ) (j := 7) (v := 0) (by decide)).ci hmi))) dX8_goBack_36 svX8_saves q677 sh46 (ci := 8) rfl rfl rfl ⟨Nat.le_of_ble_eq_true rfl, Nat.le_of_ble_eq_true rfl⟩ (Nat.le_of_ble_eq_true rfl) ⟨Nat.le_of_ble_eq_true rfl, Nat.le_of_ble_eq_true rfl⟩ ?_
        rintro _ s ⟨rfl, hs⟩
        refine r_aload_n dX8_goBack_39 rfl rfl ?_
        refine r_getR (b := 49) dX8_goBack_40 sh46 rfl (ci := 8) (j := 3) rfl (Nat.le_of_ble_eq_true rfl) ixX8 q645 rfl ?_
        refine r_bipush dX8_goBack_43 rfl ?_
        refine r_iload_n dX8_goBack_45 rfl rfl ?_
        refine r_imul dX8_goBack_46 ?_
        refine r_aload_n dX8_goBack_47 rfl rfl ?_
        refine r_getR (b := 47) dX8_goBack_48 sh46 rfl (ci := 8) (j := 0) rfl (Nat.le_of_ble_eq_true rfl) ixX8 q642 rfl ?_
        refine r_iconst dX8_goBack_51 ?_
        refine r_callS (tX8_lays G s 49 (116 * k) 47 0 232 116 (sh49) (sh47) (by decide) (by omega)) dX8_goBack_52 svX8_lays q680 rfl ⟨Nat.le_of_ble_eq_true rfl, Nat.le_of_ble_eq_true rfl⟩ (Nat.le_of_ble_eq_true rfl) ⟨Nat.le_of_ble_eq_true rfl, Nat.le_of_ble_eq_true rfl⟩ ?_
        rintro _ _ ⟨rfl, rfl⟩
        refine r_aload_n dX8_goBack_55 rfl rfl ?_
        refine r_getR (b := 47) dX8_goBack_56 sh46 rfl (ci := 8) (j := 0) rfl (Nat.le_of_ble_eq_true rfl) ixX8 q642 rfl ?_
        refine r_iconst dX8_goBack_59 ?_
        refine r_iald dX8_goBack_60 sh47 (by omega) (hv := rfl) ?_
        exact r_iret dX8_goBack_61 rfl (by rw [hP]; exact back_m hmi (Qm.u7 (σ := σ) (j := 7) (v := 0) (by decide)) hs up_eq (by omega) (by omega))
      · skip
        refine r_aload_n dX8_goBack_29 rfl rfl ?_
        refine r_iconst dX8_goBack_30 ?_
        refine r_callV (tX8_refuses G (up σ 46 7 0) 2) dX8_goBack_31 svX8_refuses q674 sh46 (ci := 8) rfl rfl rfl ⟨Nat.le_of_ble_eq_true rfl, Nat.le_of_ble_eq_true rfl⟩ (Nat.le_of_ble_eq_true rfl) ⟨Nat.le_of_ble_eq_true rfl, Nat.le_of_ble_eq_true rfl⟩ ?_
        rintro _ _ ⟨rfl, rfl⟩
        exact r_iret dX8_goBack_34 rfl (by rw [hP]; exact by rw [back_em (by omega) (by omega)]; exact ⟨rfl, up_eq, ((((Qm.refl σ).tr (Qm.u7 (σ := σ) (j := 7) (v := 0) (by decide))).tr (Qm.u7 (σ := (up σ 46 7 0)) (j := 7) (v := 2) (by decide)))).done hmi⟩)
    · skip
      exact absurd hb2 (by omega)
  · skip
    refine r_if_ne (tgt := 20) dX8_goBack_11 (by decide) (by omega) (fun hb4 => ?_) (fun hb4 => ?_)
    · skip
      exact absurd hb4 (by omega)
    · skip
      refine r_aload_n dX8_goBack_14 rfl rfl ?_
      refine r_iconst dX8_goBack_15 ?_
      refine r_callV (tX8_refuses G (up σ 46 7 0) 1) dX8_goBack_16 svX8_refuses q674 sh46 (ci := 8) rfl rfl rfl ⟨Nat.le_of_ble_eq_true rfl, Nat.le_of_ble_eq_true rfl⟩ (Nat.le_of_ble_eq_true rfl) ⟨Nat.le_of_ble_eq_true rfl, Nat.le_of_ble_eq_true rfl⟩ ?_
      rintro _ _ ⟨rfl, rfl⟩
      exact r_iret dX8_goBack_19 rfl (by rw [hP]; exact by rw [back_no (by omega)]; exact ⟨rfl, up_eq, ((((Qm.refl σ).tr (Qm.u7 (σ := σ) (j := 7) (v := 0) (by decide))).tr (Qm.u7 (σ := (up σ 46 7 0)) (j := 7) (v := 1) (by decide)))).done hmi⟩)
set_option maxHeartbeats 1000000 in
set_option maxRecDepth 100000 in
theorem tX8_undo (G : GT) (σ : Sg)  (hmi : IM σ) : Ct G mX8_undo 2 0 0 false SH SH [Rf G 46] σ (MkP σ (oUndo (absM σ))) := by
  obtain ⟨P, hP⟩ : ∃ P : Option Value → Sg → Prop, P = (MkP σ (oUndo (absM σ))) := ⟨_, rfl⟩
  rw [← hP]
  refine ct_of (lv := [(0, Rf G 46)]) (by decide +kernel) (Nat.le_of_ble_eq_true rfl) rfl ?_
  obtain ⟨hR, hC, hn, hT, hwt, hp52, h2, h6, hbf⟩ := hmi.us
  have hO9 : OkS (st0 (σ 47)) := hmi.2.2.2.2.1
  refine r_aload_n dX8_undo_0 rfl rfl ?_
  refine r_iconst dX8_undo_1 ?_
  refine r_putI (z := 7) tyX8 dX8_undo_2 sh46 rfl (ci := 8) (j := 7) rfl (Nat.le_of_ble_eq_true rfl) rfl tyX8_ok nmX8 ixX8 q649 rfl rfl rfl ?_
  refine r_aload_n dX8_undo_5 rfl rfl ?_
  refine r_getI (z := 2) dX8_undo_6 sh46 rfl (ci := 8) (j := 2) rfl (Nat.le_of_ble_eq_true rfl) rfl ixX8 q644 rfl (hv := up_nj (by decide)) ?_
  refine r_if_ne (tgt := 18) dX8_undo_9 (by decide) (by omega) (fun hb1 => ?_) (fun hb1 => ?_)
  · skip
    refine r_aload_n dX8_undo_18 rfl rfl ?_
    refine r_dup dX8_undo_19 rfl ?_
    refine r_getI (z := 2) dX8_undo_20 sh46 rfl (ci := 8) (j := 2) rfl (Nat.le_of_ble_eq_true rfl) rfl ixX8 q644 rfl (hv := up_nj (by decide)) ?_
    refine r_iconst dX8_undo_23 ?_
    refine r_isub dX8_undo_24 ?_
    refine r_putI (z := 2) tyX8 dX8_undo_25 sh46 rfl (ci := 8) (j := 2) rfl (Nat.le_of_ble_eq_true rfl) rfl tyX8_ok nmX8 ixX8 q644 rfl rfl rfl ?_
    refine r_aload_n dX8_undo_28 rfl rfl ?_
    refine r_getR (b := 48) dX8_undo_29 sh46 rfl (ci := 8) (j := 1) rfl (Nat.le_of_ble_eq_true rfl) ixX8 q643 rfl ?_
    refine r_bipush dX8_undo_32 rfl ?_
    refine r_aload_n dX8_undo_34 rfl rfl ?_
    refine r_getI (z := 2) dX8_undo_35 sh46 rfl (ci := 8) (j := 2) rfl (Nat.le_of_ble_eq_true rfl) rfl ixX8 q644 rfl (hv := up_eq) ?_
    refine r_imul dX8_undo_38 ?_
    refine r_aload_n dX8_undo_39 rfl rfl ?_
    refine r_getR (b := 47) dX8_undo_40 sh46 rfl (ci := 8) (j := 0) rfl (Nat.le_of_ble_eq_true rfl) ixX8 q642 rfl ?_
    refine r_iconst dX8_undo_43 ?_
    refine r_callS (tX8_lays G (up (up σ 46 7 0) 46 2 ((σ 46 2) - 1)) 48 (116 * ((σ 46 2) - 1)) 47 0 696 116 (sh48) (sh47) (by decide) (by omega)) dX8_undo_44 svX8_lays q680 rfl ⟨Nat.le_of_ble_eq_true rfl, Nat.le_of_ble_eq_true rfl⟩ (Nat.le_of_ble_eq_true rfl) ⟨Nat.le_of_ble_eq_true rfl, Nat.le_of_ble_eq_true rfl⟩ ?_
    rintro _ _ ⟨rfl, rfl⟩
    refine r_aload_n dX8_undo_47 rfl rfl ?_
    refine r_getI (z := 2) dX8_undo_48 sh46 rfl (ci := 8) (j := 2) rfl (Nat.le_of_ble_eq_true rfl) rfl ixX8 q644 rfl (hv := rfl) ?_
    exact r_iret dX8_undo_51 rfl (by rw [hP]; exact undo_m hmi (by omega) rfl)
  · skip
    refine r_aload_n dX8_undo_12 rfl rfl ?_
    refine r_iconst dX8_undo_13 ?_
    refine r_callV (tX8_refuses G (up σ 46 7 0) 1) dX8_undo_14 svX8_refuses q674 sh46 (ci := 8) rfl rfl rfl ⟨Nat.le_of_ble_eq_true rfl, Nat.le_of_ble_eq_true rfl⟩ (Nat.le_of_ble_eq_true rfl) ⟨Nat.le_of_ble_eq_true rfl, Nat.le_of_ble_eq_true rfl⟩ ?_
    rintro _ _ ⟨rfl, rfl⟩
    exact r_iret dX8_undo_17 rfl (by rw [hP]; exact by rw [undo_em (by omega)]; exact ⟨rfl, up_eq, ((((Qm.refl σ).tr (Qm.u7 (σ := σ) (j := 7) (v := 0) (by decide))).tr (Qm.u7 (σ := (up σ 46 7 0)) (j := 7) (v := 1) (by decide)))).done hmi⟩)
set_option maxHeartbeats 1000000 in
set_option maxRecDepth 100000 in
theorem tX8_place (G : GT) (σ : Sg) (r w : Int) (hmi : IM σ) (hrg : (-2147483648 ≤ r ∧ r ≤ 2147483647) ∧ (-2147483648 ≤ w ∧ w ≤ 2147483647)) : Ct G mX8_place 7 0 0 false SH SH [Rf G 46, I r, I w] σ (MkP σ (oPlace (absM σ) r w)) := by
  obtain ⟨P, hP⟩ : ∃ P : Option Value → Sg → Prop, P = (MkP σ (oPlace (absM σ) r w)) := ⟨_, rfl⟩
  rw [← hP]
  refine ct_of (lv := [(0, Rf G 46), (1, I r), (2, I w)]) (by decide +kernel) (Nat.le_of_ble_eq_true rfl) rfl ?_
  obtain ⟨hR, hC, hn, hT, hwt, hp52, h2, h6, hbf⟩ := hmi.us
  have hO9 : OkS (st0 (σ 47)) := hmi.2.2.2.2.1
  refine r_aload_n dX8_place_0 rfl rfl ?_
  refine r_iconst dX8_place_1 ?_
  refine r_putI (z := 7) tyX8 dX8_place_2 sh46 rfl (ci := 8) (j := 7) rfl (Nat.le_of_ble_eq_true rfl) rfl tyX8_ok nmX8 ixX8 q649 rfl rfl rfl ?_
  refine r_aload_n dX8_place_5 rfl rfl ?_
  refine r_iload_n dX8_place_6 rfl rfl ?_
  refine r_callV (tX8_isRow G (up σ 46 7 0) r (by omega) (((Qm.u7 (σ := σ) (j := 7) (v := 0) (by decide)).ci hmi).us.1)) dX8_place_7 svX8_isRow q690 sh46 (ci := 8) rfl rfl rfl ⟨Nat.le_of_ble_eq_true rfl, Nat.le_of_ble_eq_true rfl⟩ (Nat.le_of_ble_eq_true rfl) ⟨Nat.le_of_ble_eq_true rfl, Nat.le_of_ble_eq_true rfl⟩ ?_
  rintro _ _ ⟨⟨hq1, rfl⟩ | ⟨hq1, rfl⟩, rfl⟩
  · skip
    rw [up_ne (by decide)] at hq1
    refine r_if_ne (tgt := 19) dX8_place_10 (by decide) (by omega) (fun hb2 => ?_) (fun hb2 => ?_)
    · skip
      refine r_iload_n dX8_place_19 rfl rfl ?_
      refine r_iconst dX8_place_20 ?_
      refine r_iconst dX8_place_21 ?_
      refine r_callS (tX8_in G (up σ 46 7 0) w 0 2 (by omega)) dX8_place_22 svX8_in q671 rfl ⟨Nat.le_of_ble_eq_true rfl, Nat.le_of_ble_eq_true rfl⟩ (Nat.le_of_ble_eq_true rfl) ⟨Nat.le_of_ble_eq_true rfl, Nat.le_of_ble_eq_true rfl⟩ ?_
      rintro _ _ ⟨⟨hq3, rfl⟩ | ⟨hq3, rfl⟩, rfl⟩
      · skip
        refine r_if_eq (tgt := 37) dX8_place_25 (by decide) (by omega) (fun hb4 => ?_) (fun hb4 => ?_)
        · skip
          exact absurd hb4 (by omega)
        · skip
          refine r_aload_n dX8_place_28 rfl rfl ?_
          refine r_iload_n dX8_place_29 rfl rfl ?_
          refine r_iload_n dX8_place_30 rfl rfl ?_
          refine r_callV (tX8_placeBy G (up σ 46 7 0) r w (((Qm.u7 (σ := σ) (j := 7) (v := 0) (by decide)).ci hmi)) (by omega) (by rw [up_ne (by decide)]; omega)) dX8_place_31 svX8_placeBy q815 sh46 (ci := 8) rfl rfl rfl ⟨Nat.le_of_ble_eq_true rfl, Nat.le_of_ble_eq_true rfl⟩ (Nat.le_of_ble_eq_true rfl) ⟨Nat.le_of_ble_eq_true rfl, Nat.le_of_ble_eq_true rfl⟩ ?_
          rintro _ s5 ⟨rfl, hq6⟩
          rw [show (up σ 46 7 0) 47 = σ 47 from up_ne (by decide)]
          refine r_goto (tgt := 42) dX8_place_34 (by decide) ?_
          exact r_iret dX8_place_42 rfl (by rw [hP]; exact by rw [oPlace_m]; first | (rw [if_neg (by omega)]; exact ⟨rfl, ((hq6.2.1).trans (up_eq)), ((((Qm.refl σ).tr (Qm.u7 (σ := σ) (j := 7) (v := 0) (by decide))).tr hq6.1)).done hmi⟩) | (rw [if_pos (by omega), if_neg (by omega)]; exact ⟨rfl, ((hq6.2.1).trans (up_eq)), ((((Qm.refl σ).tr (Qm.u7 (σ := σ) (j := 7) (v := 0) (by decide))).tr hq6.1)).done hmi⟩) | (rw [if_pos (by omega), if_pos (by omega)]; exact ⟨rfl, ((hq6.2.1).trans (up_eq)), ((((Qm.refl σ).tr (Qm.u7 (σ := σ) (j := 7) (v := 0) (by decide))).tr hq6.1)).done hmi⟩) | (rw [if_pos (by omega)]; exact ⟨rfl, ((hq6.2.1).trans (up_eq)), ((((Qm.refl σ).tr (Qm.u7 (σ := σ) (j := 7) (v := 0) (by decide))).tr hq6.1)).done hmi⟩))
      · skip
        refine r_if_eq (tgt := 37) dX8_place_25 (by decide) (by omega) (fun hb7 => ?_) (fun hb7 => ?_)
        · skip
          refine r_aload_n dX8_place_37 rfl rfl ?_
          refine r_iconst dX8_place_38 ?_
          refine r_callV (tX8_refuses G (up σ 46 7 0) 2) dX8_place_39 svX8_refuses q674 sh46 (ci := 8) rfl rfl rfl ⟨Nat.le_of_ble_eq_true rfl, Nat.le_of_ble_eq_true rfl⟩ (Nat.le_of_ble_eq_true rfl) ⟨Nat.le_of_ble_eq_true rfl, Nat.le_of_ble_eq_true rfl⟩ ?_
          rintro _ _ ⟨rfl, rfl⟩
          exact r_iret dX8_place_42 rfl (by rw [hP]; exact by rw [oPlace_m]; first | (rw [if_neg (by omega)]; exact ⟨rfl, up_eq, ((((Qm.refl σ).tr (Qm.u7 (σ := σ) (j := 7) (v := 0) (by decide))).tr (Qm.u7 (σ := (up σ 46 7 0)) (j := 7) (v := 2) (by decide)))).done hmi⟩) | (rw [if_pos (by omega), if_neg (by omega)]; exact ⟨rfl, up_eq, ((((Qm.refl σ).tr (Qm.u7 (σ := σ) (j := 7) (v := 0) (by decide))).tr (Qm.u7 (σ := (up σ 46 7 0)) (j := 7) (v := 2) (by decide)))).done hmi⟩) | (rw [if_pos (by omega), if_pos (by omega)]; exact ⟨rfl, up_eq, ((((Qm.refl σ).tr (Qm.u7 (σ := σ) (j := 7) (v := 0) (by decide))).tr (Qm.u7 (σ := (up σ 46 7 0)) (j := 7) (v := 2) (by decide)))).done hmi⟩) | (rw [if_pos (by omega)]; exact ⟨rfl, up_eq, ((((Qm.refl σ).tr (Qm.u7 (σ := σ) (j := 7) (v := 0) (by decide))).tr (Qm.u7 (σ := (up σ 46 7 0)) (j := 7) (v := 2) (by decide)))).done hmi⟩))
        · skip
          exact absurd hb7 (by omega)
    · skip
      exact absurd hb2 (by omega)
  · skip
    rw [up_ne (by decide)] at hq1
    refine r_if_ne (tgt := 19) dX8_place_10 (by decide) (by omega) (fun hb8 => ?_) (fun hb8 => ?_)
    · skip
      exact absurd hb8 (by omega)
    · skip
      refine r_aload_n dX8_place_13 rfl rfl ?_
      refine r_iconst dX8_place_14 ?_
      refine r_callV (tX8_refuses G (up σ 46 7 0) 1) dX8_place_15 svX8_refuses q674 sh46 (ci := 8) rfl rfl rfl ⟨Nat.le_of_ble_eq_true rfl, Nat.le_of_ble_eq_true rfl⟩ (Nat.le_of_ble_eq_true rfl) ⟨Nat.le_of_ble_eq_true rfl, Nat.le_of_ble_eq_true rfl⟩ ?_
      rintro _ _ ⟨rfl, rfl⟩
      exact r_iret dX8_place_18 rfl (by rw [hP]; exact by rw [oPlace_m]; first | (rw [if_neg (by omega)]; exact ⟨rfl, up_eq, ((((Qm.refl σ).tr (Qm.u7 (σ := σ) (j := 7) (v := 0) (by decide))).tr (Qm.u7 (σ := (up σ 46 7 0)) (j := 7) (v := 1) (by decide)))).done hmi⟩) | (rw [if_pos (by omega), if_neg (by omega)]; exact ⟨rfl, up_eq, ((((Qm.refl σ).tr (Qm.u7 (σ := σ) (j := 7) (v := 0) (by decide))).tr (Qm.u7 (σ := (up σ 46 7 0)) (j := 7) (v := 1) (by decide)))).done hmi⟩) | (rw [if_pos (by omega), if_pos (by omega)]; exact ⟨rfl, up_eq, ((((Qm.refl σ).tr (Qm.u7 (σ := σ) (j := 7) (v := 0) (by decide))).tr (Qm.u7 (σ := (up σ 46 7 0)) (j := 7) (v := 1) (by decide)))).done hmi⟩) | (rw [if_pos (by omega)]; exact ⟨rfl, up_eq, ((((Qm.refl σ).tr (Qm.u7 (σ := σ) (j := 7) (v := 0) (by decide))).tr (Qm.u7 (σ := (up σ 46 7 0)) (j := 7) (v := 1) (by decide)))).done hmi⟩))
set_option maxHeartbeats 1000000 in
set_option maxRecDepth 100000 in
theorem tX8_looks (G : GT) (σ : Sg) (w : Int) (hmi : IM σ) (hrg : (-2147483648 ≤ w ∧ w ≤ 2147483647)) : Ct G mX8_looks 7 0 0 false SH SH [Rf G 46, I w] σ (MkP σ (oLooks (absM σ) w)) := by
  obtain ⟨P, hP⟩ : ∃ P : Option Value → Sg → Prop, P = (MkP σ (oLooks (absM σ) w)) := ⟨_, rfl⟩
  rw [← hP]
  refine ct_of (lv := [(0, Rf G 46), (1, I w)]) (by decide +kernel) (Nat.le_of_ble_eq_true rfl) rfl ?_
  obtain ⟨hR, hC, hn, hT, hwt, hp52, h2, h6, hbf⟩ := hmi.us
  have hO9 : OkS (st0 (σ 47)) := hmi.2.2.2.2.1
  refine r_aload_n dX8_looks_0 rfl rfl ?_
  refine r_iconst dX8_looks_1 ?_
  refine r_putI (z := 7) tyX8 dX8_looks_2 sh46 rfl (ci := 8) (j := 7) rfl (Nat.le_of_ble_eq_true rfl) rfl tyX8_ok nmX8 ixX8 q649 rfl rfl rfl ?_
  refine r_iload_n dX8_looks_5 rfl rfl ?_
  refine r_iconst dX8_looks_6 ?_
  refine r_iconst dX8_looks_7 ?_
  refine r_callS (tX8_in G (up σ 46 7 0) w 0 2 (by omega)) dX8_looks_8 svX8_in q671 rfl ⟨Nat.le_of_ble_eq_true rfl, Nat.le_of_ble_eq_true rfl⟩ (Nat.le_of_ble_eq_true rfl) ⟨Nat.le_of_ble_eq_true rfl, Nat.le_of_ble_eq_true rfl⟩ ?_
  rintro _ _ ⟨⟨hq1, rfl⟩ | ⟨hq1, rfl⟩, rfl⟩
  · skip
    refine r_if_eq (tgt := 22) dX8_looks_11 (by decide) (by omega) (fun hb2 => ?_) (fun hb2 => ?_)
    · skip
      exact absurd hb2 (by omega)
    · skip
      refine r_aload_n dX8_looks_14 rfl rfl ?_
      refine r_iload_n dX8_looks_15 rfl rfl ?_
      refine r_callV (tX8_looksBy G (up σ 46 7 0) w (((Qm.u7 (σ := σ) (j := 7) (v := 0) (by decide)).ci hmi)) (by omega)) dX8_looks_16 svX8_looksBy q822 sh46 (ci := 8) rfl rfl rfl ⟨Nat.le_of_ble_eq_true rfl, Nat.le_of_ble_eq_true rfl⟩ (Nat.le_of_ble_eq_true rfl) ⟨Nat.le_of_ble_eq_true rfl, Nat.le_of_ble_eq_true rfl⟩ ?_
      rintro _ s3 ⟨rfl, hq4⟩
      rw [show (up σ 46 7 0) 47 = σ 47 from up_ne (by decide)]
      refine r_goto (tgt := 27) dX8_looks_19 (by decide) ?_
      exact r_iret dX8_looks_27 rfl (by rw [hP]; exact by rw [oLooks_m]; first | (rw [if_neg (by omega)]; exact ⟨rfl, ((hq4.2.1).trans (up_eq)), ((((Qm.refl σ).tr (Qm.u7 (σ := σ) (j := 7) (v := 0) (by decide))).tr hq4.1)).done hmi⟩) | (rw [if_pos (by omega), if_neg (by omega)]; exact ⟨rfl, ((hq4.2.1).trans (up_eq)), ((((Qm.refl σ).tr (Qm.u7 (σ := σ) (j := 7) (v := 0) (by decide))).tr hq4.1)).done hmi⟩) | (rw [if_pos (by omega), if_pos (by omega)]; exact ⟨rfl, ((hq4.2.1).trans (up_eq)), ((((Qm.refl σ).tr (Qm.u7 (σ := σ) (j := 7) (v := 0) (by decide))).tr hq4.1)).done hmi⟩) | (rw [if_pos (by omega)]; exact ⟨rfl, ((hq4.2.1).trans (up_eq)), ((((Qm.refl σ).tr (Qm.u7 (σ := σ) (j := 7) (v := 0) (by decide))).tr hq4.1)).done hmi⟩))
  · skip
    refine r_if_eq (tgt := 22) dX8_looks_11 (by decide) (by omega) (fun hb5 => ?_) (fun hb5 => ?_)
    · skip
      refine r_aload_n dX8_looks_22 rfl rfl ?_
      refine r_iconst dX8_looks_23 ?_
      refine r_callV (tX8_refuses G (up σ 46 7 0) 1) dX8_looks_24 svX8_refuses q674 sh46 (ci := 8) rfl rfl rfl ⟨Nat.le_of_ble_eq_true rfl, Nat.le_of_ble_eq_true rfl⟩ (Nat.le_of_ble_eq_true rfl) ⟨Nat.le_of_ble_eq_true rfl, Nat.le_of_ble_eq_true rfl⟩ ?_
      rintro _ _ ⟨rfl, rfl⟩
      exact r_iret dX8_looks_27 rfl (by rw [hP]; exact by rw [oLooks_m]; first | (rw [if_neg (by omega)]; exact ⟨rfl, up_eq, ((((Qm.refl σ).tr (Qm.u7 (σ := σ) (j := 7) (v := 0) (by decide))).tr (Qm.u7 (σ := (up σ 46 7 0)) (j := 7) (v := 1) (by decide)))).done hmi⟩) | (rw [if_pos (by omega), if_neg (by omega)]; exact ⟨rfl, up_eq, ((((Qm.refl σ).tr (Qm.u7 (σ := σ) (j := 7) (v := 0) (by decide))).tr (Qm.u7 (σ := (up σ 46 7 0)) (j := 7) (v := 1) (by decide)))).done hmi⟩) | (rw [if_pos (by omega), if_pos (by omega)]; exact ⟨rfl, up_eq, ((((Qm.refl σ).tr (Qm.u7 (σ := σ) (j := 7) (v := 0) (by decide))).tr (Qm.u7 (σ := (up σ 46 7 0)) (j := 7) (v := 1) (by decide)))).done hmi⟩) | (rw [if_pos (by omega)]; exact ⟨rfl, up_eq, ((((Qm.refl σ).tr (Qm.u7 (σ := σ) (j := 7) (v := 0) (by decide))).tr (Qm.u7 (σ := (up σ 46 7 0)) (j := 7) (v := 1) (by decide)))).done hmi⟩))
    · skip
      exact absurd hb5 (by omega)
set_option maxHeartbeats 1000000 in
set_option maxRecDepth 100000 in
theorem tX8_bound (G : GT) (σ : Sg)  (hmi : IM σ) : Ct G mX8_bound 2 0 0 false SH SH [Rf G 46] σ (MkP σ (oBound (absM σ))) := by
  obtain ⟨P, hP⟩ : ∃ P : Option Value → Sg → Prop, P = (MkP σ (oBound (absM σ))) := ⟨_, rfl⟩
  rw [← hP]
  refine ct_of (lv := [(0, Rf G 46)]) (by decide +kernel) (Nat.le_of_ble_eq_true rfl) rfl ?_
  obtain ⟨hR, hC, hn, hT, hwt, hp52, h2, h6, hbf⟩ := hmi.us
  have hO9 : OkS (st0 (σ 47)) := hmi.2.2.2.2.1
  refine r_aload_n dX8_bound_0 rfl rfl ?_
  refine r_iconst dX8_bound_1 ?_
  refine r_putI (z := 7) tyX8 dX8_bound_2 sh46 rfl (ci := 8) (j := 7) rfl (Nat.le_of_ble_eq_true rfl) rfl tyX8_ok nmX8 ixX8 q649 rfl rfl rfl ?_
  refine r_aload_n dX8_bound_5 rfl rfl ?_
  refine r_callV (tX8_bounds G (up σ 46 7 0)  (((Qm.u7 (σ := σ) (j := 7) (v := 0) (by decide)).ci hmi).us.1) (((Qm.u7 (σ := σ) (j := 7) (v := 0) (by decide)).ci hmi).us.2.1)) dX8_bound_6 svX8_bounds q829 sh46 (ci := 8) rfl rfl rfl ⟨Nat.le_of_ble_eq_true rfl, Nat.le_of_ble_eq_true rfl⟩ (Nat.le_of_ble_eq_true rfl) ⟨Nat.le_of_ble_eq_true rfl, Nat.le_of_ble_eq_true rfl⟩ ?_
  rintro _ _ ⟨rfl, rfl⟩
  rw [show (up σ 46 7 0) 47 0 = σ 47 0 from congrFun (up_ne (by decide)) 0]
  rw [show (up σ 46 7 0) 47 1 = σ 47 1 from congrFun (up_ne (by decide)) 1]
  exact r_iret dX8_bound_9 rfl (by rw [hP]; exact by rw [oBound_m]; exact ⟨rfl, up_eq, (((Qm.refl σ).tr (Qm.u7 (σ := σ) (j := 7) (v := 0) (by decide)))).done hmi⟩)
set_option maxHeartbeats 1000000 in
set_option maxRecDepth 100000 in
theorem tX8_witness (G : GT) (σ : Sg) (k : Int) (hmi : IM σ) (hrg : (-2147483648 ≤ k ∧ k ≤ 2147483647)) : Ct G mX8_witness 5 0 0 false SH SH [Rf G 46, I k] σ (MkP σ (oWitness (absM σ) k)) := by
  obtain ⟨P, hP⟩ : ∃ P : Option Value → Sg → Prop, P = (MkP σ (oWitness (absM σ) k)) := ⟨_, rfl⟩
  rw [← hP]
  refine ct_of (lv := [(0, Rf G 46), (1, I k)]) (by decide +kernel) (Nat.le_of_ble_eq_true rfl) rfl ?_
  obtain ⟨hR, hC, hn, hT, hwt, hp52, h2, h6, hbf⟩ := hmi.us
  have hO9 : OkS (st0 (σ 47)) := hmi.2.2.2.2.1
  refine r_aload_n dX8_witness_0 rfl rfl ?_
  refine r_iconst dX8_witness_1 ?_
  refine r_putI (z := 7) tyX8 dX8_witness_2 sh46 rfl (ci := 8) (j := 7) rfl (Nat.le_of_ble_eq_true rfl) rfl tyX8_ok nmX8 ixX8 q649 rfl rfl rfl ?_
  refine r_iload_n dX8_witness_5 rfl rfl ?_
  refine r_iconst dX8_witness_6 ?_
  refine r_iconst dX8_witness_7 ?_
  refine r_callS (tX8_in G (up σ 46 7 0) k 0 3 (by omega)) dX8_witness_8 svX8_in q671 rfl ⟨Nat.le_of_ble_eq_true rfl, Nat.le_of_ble_eq_true rfl⟩ (Nat.le_of_ble_eq_true rfl) ⟨Nat.le_of_ble_eq_true rfl, Nat.le_of_ble_eq_true rfl⟩ ?_
  rintro _ _ ⟨⟨hq1, rfl⟩ | ⟨hq1, rfl⟩, rfl⟩
  · skip
    refine r_if_eq (tgt := 22) dX8_witness_11 (by decide) (by omega) (fun hb2 => ?_) (fun hb2 => ?_)
    · skip
      exact absurd hb2 (by omega)
    · skip
      refine r_aload_n dX8_witness_14 rfl rfl ?_
      refine r_iload_n dX8_witness_15 rfl rfl ?_
      refine r_callV (tX8_testified G (up σ 46 7 0) k (((Qm.u7 (σ := σ) (j := 7) (v := 0) (by decide)).ci hmi).us.1) (((Qm.u7 (σ := σ) (j := 7) (v := 0) (by decide)).ci hmi).us.2.1) (((Qm.u7 (σ := σ) (j := 7) (v := 0) (by decide)).ci hmi).us.2.2.2.1) (by omega)) dX8_witness_16 svX8_testified q836 sh46 (ci := 8) rfl rfl rfl ⟨Nat.le_of_ble_eq_true rfl, Nat.le_of_ble_eq_true rfl⟩ (Nat.le_of_ble_eq_true rfl) ⟨Nat.le_of_ble_eq_true rfl, Nat.le_of_ble_eq_true rfl⟩ ?_
      rintro _ _ ⟨rfl, rfl⟩
      rw [up_ne (by decide)]
      refine r_goto (tgt := 27) dX8_witness_19 (by decide) ?_
      exact r_iret dX8_witness_27 rfl (by rw [hP]; exact by rw [oWitness_m]; first | (rw [if_neg (by omega)]; exact ⟨rfl, up_eq, (((Qm.refl σ).tr (Qm.u7 (σ := σ) (j := 7) (v := 0) (by decide)))).done hmi⟩) | (rw [if_pos (by omega), if_neg (by omega)]; exact ⟨rfl, up_eq, (((Qm.refl σ).tr (Qm.u7 (σ := σ) (j := 7) (v := 0) (by decide)))).done hmi⟩) | (rw [if_pos (by omega), if_pos (by omega)]; exact ⟨rfl, up_eq, (((Qm.refl σ).tr (Qm.u7 (σ := σ) (j := 7) (v := 0) (by decide)))).done hmi⟩) | (rw [if_pos (by omega)]; exact ⟨rfl, up_eq, (((Qm.refl σ).tr (Qm.u7 (σ := σ) (j := 7) (v := 0) (by decide)))).done hmi⟩))
  · skip
    refine r_if_eq (tgt := 22) dX8_witness_11 (by decide) (by omega) (fun hb3 => ?_) (fun hb3 => ?_)
    · skip
      refine r_aload_n dX8_witness_22 rfl rfl ?_
      refine r_iconst dX8_witness_23 ?_
      refine r_callV (tX8_refuses G (up σ 46 7 0) 1) dX8_witness_24 svX8_refuses q674 sh46 (ci := 8) rfl rfl rfl ⟨Nat.le_of_ble_eq_true rfl, Nat.le_of_ble_eq_true rfl⟩ (Nat.le_of_ble_eq_true rfl) ⟨Nat.le_of_ble_eq_true rfl, Nat.le_of_ble_eq_true rfl⟩ ?_
      rintro _ _ ⟨rfl, rfl⟩
      exact r_iret dX8_witness_27 rfl (by rw [hP]; exact by rw [oWitness_m]; first | (rw [if_neg (by omega)]; exact ⟨rfl, up_eq, ((((Qm.refl σ).tr (Qm.u7 (σ := σ) (j := 7) (v := 0) (by decide))).tr (Qm.u7 (σ := (up σ 46 7 0)) (j := 7) (v := 1) (by decide)))).done hmi⟩) | (rw [if_pos (by omega), if_neg (by omega)]; exact ⟨rfl, up_eq, ((((Qm.refl σ).tr (Qm.u7 (σ := σ) (j := 7) (v := 0) (by decide))).tr (Qm.u7 (σ := (up σ 46 7 0)) (j := 7) (v := 1) (by decide)))).done hmi⟩) | (rw [if_pos (by omega), if_pos (by omega)]; exact ⟨rfl, up_eq, ((((Qm.refl σ).tr (Qm.u7 (σ := σ) (j := 7) (v := 0) (by decide))).tr (Qm.u7 (σ := (up σ 46 7 0)) (j := 7) (v := 1) (by decide)))).done hmi⟩) | (rw [if_pos (by omega)]; exact ⟨rfl, up_eq, ((((Qm.refl σ).tr (Qm.u7 (σ := σ) (j := 7) (v := 0) (by decide))).tr (Qm.u7 (σ := (up σ 46 7 0)) (j := 7) (v := 1) (by decide)))).done hmi⟩))
    · skip
      exact absurd hb3 (by omega)
set_option maxHeartbeats 1000000 in
set_option maxRecDepth 100000 in
theorem tX8_weight (G : GT) (σ : Sg) (i : Int) (hmi : IM σ) (hrg : (-2147483648 ≤ i ∧ i ≤ 2147483647)) : Ct G mX8_weight 2 0 0 false SH SH [Rf G 46, I i] σ (MkP σ (oWeight (absM σ) i)) := by
  obtain ⟨P, hP⟩ : ∃ P : Option Value → Sg → Prop, P = (MkP σ (oWeight (absM σ) i)) := ⟨_, rfl⟩
  rw [← hP]
  refine ct_of (lv := [(0, Rf G 46), (1, I i)]) (by decide +kernel) (Nat.le_of_ble_eq_true rfl) rfl ?_
  obtain ⟨hR, hC, hn, hT, hwt, hp52, h2, h6, hbf⟩ := hmi.us
  have hO9 : OkS (st0 (σ 47)) := hmi.2.2.2.2.1
  refine r_aload_n dX8_weight_0 rfl rfl ?_
  refine r_iconst dX8_weight_1 ?_
  refine r_putI (z := 7) tyX8 dX8_weight_2 sh46 rfl (ci := 8) (j := 7) rfl (Nat.le_of_ble_eq_true rfl) rfl tyX8_ok nmX8 ixX8 q649 rfl rfl rfl ?_
  refine r_iload_n dX8_weight_5 rfl rfl ?_
  refine r_iconst dX8_weight_6 ?_
  refine r_aload_n dX8_weight_7 rfl rfl ?_
  refine r_getR (b := 47) dX8_weight_8 sh46 rfl (ci := 8) (j := 0) rfl (Nat.le_of_ble_eq_true rfl) ixX8 q642 rfl ?_
  refine r_iconst dX8_weight_11 ?_
  refine r_iald dX8_weight_12 sh47 (by omega) (hv := congrFun (up_ne (by decide)) 5) ?_
  refine r_iconst dX8_weight_13 ?_
  refine r_isub dX8_weight_14 ?_
  refine r_callS (tX8_in G (up σ 46 7 0) i 0 ((σ 47 5) - 1) (by omega)) dX8_weight_15 svX8_in q671 rfl ⟨Nat.le_of_ble_eq_true rfl, Nat.le_of_ble_eq_true rfl⟩ (Nat.le_of_ble_eq_true rfl) ⟨Nat.le_of_ble_eq_true rfl, Nat.le_of_ble_eq_true rfl⟩ ?_
  rintro _ _ ⟨⟨hq1, rfl⟩ | ⟨hq1, rfl⟩, rfl⟩
  · skip
    refine r_if_eq (tgt := 33) dX8_weight_18 (by decide) (by omega) (fun hb2 => ?_) (fun hb2 => ?_)
    · skip
      exact absurd hb2 (by omega)
    · skip
      refine r_aload_n dX8_weight_21 rfl rfl ?_
      refine r_getR (b := 47) dX8_weight_22 sh46 rfl (ci := 8) (j := 0) rfl (Nat.le_of_ble_eq_true rfl) ixX8 q642 rfl ?_
      refine r_bipush dX8_weight_25 rfl ?_
      refine r_iload_n dX8_weight_27 rfl rfl ?_
      refine r_iadd dX8_weight_28 ?_
      refine r_iald dX8_weight_29 sh47 (by omega) (hv := congrFun (up_ne (by decide)) (6 + i)) ?_
      refine r_goto (tgt := 38) dX8_weight_30 (by decide) ?_
      exact r_iret dX8_weight_38 rfl (by rw [hP]; exact by rw [oWeight_m]; first | (rw [if_neg (by omega)]; exact ⟨rfl, up_eq, (((Qm.refl σ).tr (Qm.u7 (σ := σ) (j := 7) (v := 0) (by decide)))).done hmi⟩) | (rw [if_pos (by omega)]; exact ⟨by show some (I (rs (σ 47 5) (fun i => σ 47 (6 + i)) i)) = _; rw [rs_at (by omega)], up_eq, (((Qm.refl σ).tr (Qm.u7 (σ := σ) (j := 7) (v := 0) (by decide)))).done hmi⟩))
  · skip
    refine r_if_eq (tgt := 33) dX8_weight_18 (by decide) (by omega) (fun hb3 => ?_) (fun hb3 => ?_)
    · skip
      refine r_aload_n dX8_weight_33 rfl rfl ?_
      refine r_iconst dX8_weight_34 ?_
      refine r_callV (tX8_refuses G (up σ 46 7 0) 1) dX8_weight_35 svX8_refuses q674 sh46 (ci := 8) rfl rfl rfl ⟨Nat.le_of_ble_eq_true rfl, Nat.le_of_ble_eq_true rfl⟩ (Nat.le_of_ble_eq_true rfl) ⟨Nat.le_of_ble_eq_true rfl, Nat.le_of_ble_eq_true rfl⟩ ?_
      rintro _ _ ⟨rfl, rfl⟩
      exact r_iret dX8_weight_38 rfl (by rw [hP]; exact by rw [oWeight_m]; first | (rw [if_neg (by omega)]; exact ⟨rfl, up_eq, ((((Qm.refl σ).tr (Qm.u7 (σ := σ) (j := 7) (v := 0) (by decide))).tr (Qm.u7 (σ := (up σ 46 7 0)) (j := 7) (v := 1) (by decide)))).done hmi⟩) | (rw [if_pos (by omega)]; exact ⟨by show some (I (rs (σ 47 5) (fun i => σ 47 (6 + i)) i)) = _; rw [rs_at (by omega)], up_eq, ((((Qm.refl σ).tr (Qm.u7 (σ := σ) (j := 7) (v := 0) (by decide))).tr (Qm.u7 (σ := (up σ 46 7 0)) (j := 7) (v := 1) (by decide)))).done hmi⟩))
    · skip
      exact absurd hb3 (by omega)
set_option maxHeartbeats 1000000 in
set_option maxRecDepth 100000 in
theorem tX8_weigh (G : GT) (σ : Sg) (v : Int) (hmi : IM σ) (hrg : (-2147483648 ≤ v ∧ v ≤ 2147483647)) : Ct G mX8_weigh 3 0 0 false SH SH [Rf G 46, I v] σ (MkP σ (oWeigh (absM σ) v)) := by
  obtain ⟨P, hP⟩ : ∃ P : Option Value → Sg → Prop, P = (MkP σ (oWeigh (absM σ) v)) := ⟨_, rfl⟩
  rw [← hP]
  refine ct_of (lv := [(0, Rf G 46), (1, I v)]) (by decide +kernel) (Nat.le_of_ble_eq_true rfl) rfl ?_
  obtain ⟨hR, hC, hn, hT, hwt, hp52, h2, h6, hbf⟩ := hmi.us
  have hO9 : OkS (st0 (σ 47)) := hmi.2.2.2.2.1
  refine r_aload_n dX8_weigh_0 rfl rfl ?_
  refine r_iconst dX8_weigh_1 ?_
  refine r_putI (z := 7) tyX8 dX8_weigh_2 sh46 rfl (ci := 8) (j := 7) rfl (Nat.le_of_ble_eq_true rfl) rfl tyX8_ok nmX8 ixX8 q649 rfl rfl rfl ?_
  refine r_iload_n dX8_weigh_5 rfl rfl ?_
  refine r_iconst dX8_weigh_6 ?_
  refine r_bipush dX8_weigh_7 rfl ?_
  refine r_callS (tX8_in G (up σ 46 7 0) v 1 99 (by omega)) dX8_weigh_9 svX8_in q671 rfl ⟨Nat.le_of_ble_eq_true rfl, Nat.le_of_ble_eq_true rfl⟩ (Nat.le_of_ble_eq_true rfl) ⟨Nat.le_of_ble_eq_true rfl, Nat.le_of_ble_eq_true rfl⟩ ?_
  rintro _ _ ⟨⟨hq1, rfl⟩ | ⟨hq1, rfl⟩, rfl⟩
  · skip
    refine r_if_ne (tgt := 21) dX8_weigh_12 (by decide) (by omega) (fun hb2 => ?_) (fun hb2 => ?_)
    · skip
      refine r_aload_n dX8_weigh_21 rfl rfl ?_
      refine r_getR (b := 47) dX8_weigh_22 sh46 rfl (ci := 8) (j := 0) rfl (Nat.le_of_ble_eq_true rfl) ixX8 q642 rfl ?_
      refine r_iconst dX8_weigh_25 ?_
      refine r_iald dX8_weigh_26 sh47 (by omega) (hv := congrFun (up_ne (by decide)) 5) ?_
      refine r_bipush dX8_weigh_27 rfl ?_
      refine r_icmp_ne (tgt := 38) dX8_weigh_29 (by decide) (by omega) (fun hb3 => ?_) (fun hb3 => ?_)
      · skip
        refine r_aload_n dX8_weigh_38 rfl rfl ?_
        refine r_callV (tX8_saves G (up σ 46 7 0)  (((Qm.u7 (σ := σ) (j := 7) (v := 0) (by decide)).ci hmi))) dX8_weigh_39 svX8_saves q677 sh46 (ci := 8) rfl rfl rfl ⟨Nat.le_of_ble_eq_true rfl, Nat.le_of_ble_eq_true rfl⟩ (Nat.le_of_ble_eq_true rfl) ⟨Nat.le_of_ble_eq_true rfl, Nat.le_of_ble_eq_true rfl⟩ ?_
        rintro _ s ⟨rfl, hs⟩
        refine r_aload_n dX8_weigh_42 rfl rfl ?_
        refine r_getR (b := 47) dX8_weigh_43 sh46 rfl (ci := 8) (j := 0) rfl (Nat.le_of_ble_eq_true rfl) ixX8 q642 rfl ?_
        refine r_bipush dX8_weigh_46 rfl ?_
        refine r_aload_n dX8_weigh_48 rfl rfl ?_
        refine r_getR (b := 47) dX8_weigh_49 sh46 rfl (ci := 8) (j := 0) rfl (Nat.le_of_ble_eq_true rfl) ixX8 q642 rfl ?_
        refine r_iconst dX8_weigh_52 ?_
        refine r_iald dX8_weigh_53 sh47 (by omega) (hv := (congrFun (hs.1 47 (by decide) (by decide)) 5).trans (congrFun (up_ne (by decide)) 5)) ?_
        refine r_iadd dX8_weigh_54 ?_
        refine r_iload_n dX8_weigh_55 rfl rfl ?_
        refine r_iast dX8_weigh_56 sh47 (by omega) ?_
        refine r_aload_n dX8_weigh_57 rfl rfl ?_
        refine r_getR (b := 47) dX8_weigh_58 sh46 rfl (ci := 8) (j := 0) rfl (Nat.le_of_ble_eq_true rfl) ixX8 q642 rfl ?_
        refine r_iconst dX8_weigh_61 ?_
        refine r_dup2 dX8_weigh_62 rfl rfl ?_
        refine r_iald dX8_weigh_63 sh47 (by omega) (hv := (up_nj (by omega)).trans ((congrFun (hs.1 47 (by decide) (by decide)) 5).trans (congrFun (up_ne (by decide)) 5))) ?_
        refine r_iconst dX8_weigh_64 ?_
        refine r_iadd dX8_weigh_65 ?_
        refine r_iast dX8_weigh_66 sh47 (by omega) ?_
        refine r_aload_n dX8_weigh_67 rfl rfl ?_
        refine r_getR (b := 47) dX8_weigh_68 sh46 rfl (ci := 8) (j := 0) rfl (Nat.le_of_ble_eq_true rfl) ixX8 q642 rfl ?_
        refine r_iconst dX8_weigh_71 ?_
        refine r_iald dX8_weigh_72 sh47 (by omega) (hv := up_eq) ?_
        exact r_iret dX8_weigh_73 rfl (by rw [hP]; exact by rw [oWeigh_m, if_pos (by omega), if_neg (by omega)]; exact ⟨rfl, ((congrFun (up_ne (by decide)) 7).trans ((congrFun (up_ne (by decide)) 7).trans ((hs.2.1 7 (by decide)).trans (up_eq)))), aftN hmi (Qm.u7 (σ := σ) (j := 7) (v := 0) (by decide)) hs (Nm.u (Nm.u (Nm.refl s) (i := (6 + (σ 47 5))) (v := v)) (i := 5) (v := ((σ 47 5) + 1))) ((congrFun (up_ne (by decide)) 6).trans ((congrFun (up_ne (by decide)) 6).trans ((hs.2.1 6 (by decide)).trans (up_nj (by decide))))) (σ 47 0, σ 47 1, σ 47 5 + 1, σ 47 2, σ 47 3, σ 47 4, tM (σ 47), fu (nW (st0 (σ 47))) (σ 47 5) v) ((up_nj (by decide)).trans ((up_nj (by omega)).trans ((congrFun (hs.1 47 (by decide) (by decide)) 0).trans (congrFun (up_ne (by decide)) 0)))) ((up_nj (by decide)).trans ((up_nj (by omega)).trans ((congrFun (hs.1 47 (by decide) (by decide)) 1).trans (congrFun (up_ne (by decide)) 1)))) up_eq ((up_nj (by decide)).trans ((up_nj (by omega)).trans ((congrFun (hs.1 47 (by decide) (by decide)) 2).trans (congrFun (up_ne (by decide)) 2)))) ((up_nj (by decide)).trans ((up_nj (by omega)).trans ((congrFun (hs.1 47 (by decide) (by decide)) 3).trans (congrFun (up_ne (by decide)) 3)))) ((up_nj (by decide)).trans ((up_nj (by omega)).trans ((congrFun (hs.1 47 (by decide) (by decide)) 4).trans (congrFun (up_ne (by decide)) 4)))) (fun i a b => by rw [up_nj (by omega), up_nj (by omega), hs.1 47 (by decide) (by decide), up_ne (by decide)]; exact tM_at ⟨a, b⟩) (fun i a b => by have b : i < σ 47 5 + 1 := b; show _ = fu (rs (σ 47 5) (fun i => σ 47 (6 + i))) (σ 47 5) v i; unfold fu; by_cases e : i = σ 47 5; (rw [if_pos e, up_nj (by omega), e, up_eq]); (rw [if_neg e, up_nj (by omega), up_nj (by omega), hs.1 47 (by decide) (by decide), up_ne (by decide), rs_at (by omega)])) (OkS_add hO9 (by show σ 47 5 < 10; omega) (by omega))⟩)
      · skip
        refine r_aload_n dX8_weigh_32 rfl rfl ?_
        refine r_iconst dX8_weigh_33 ?_
        refine r_callV (tX8_refuses G (up σ 46 7 0) 2) dX8_weigh_34 svX8_refuses q674 sh46 (ci := 8) rfl rfl rfl ⟨Nat.le_of_ble_eq_true rfl, Nat.le_of_ble_eq_true rfl⟩ (Nat.le_of_ble_eq_true rfl) ⟨Nat.le_of_ble_eq_true rfl, Nat.le_of_ble_eq_true rfl⟩ ?_
        rintro _ _ ⟨rfl, rfl⟩
        exact r_iret dX8_weigh_37 rfl (by rw [hP]; exact by rw [oWeigh_m]; first | (rw [if_neg (by omega)]; exact ⟨rfl, up_eq, ((((Qm.refl σ).tr (Qm.u7 (σ := σ) (j := 7) (v := 0) (by decide))).tr (Qm.u7 (σ := (up σ 46 7 0)) (j := 7) (v := 2) (by decide)))).done hmi⟩) | (rw [if_pos (by omega), if_neg (by omega)]; exact ⟨rfl, up_eq, ((((Qm.refl σ).tr (Qm.u7 (σ := σ) (j := 7) (v := 0) (by decide))).tr (Qm.u7 (σ := (up σ 46 7 0)) (j := 7) (v := 2) (by decide)))).done hmi⟩) | (rw [if_pos (by omega), if_pos (by omega)]; exact ⟨rfl, up_eq, ((((Qm.refl σ).tr (Qm.u7 (σ := σ) (j := 7) (v := 0) (by decide))).tr (Qm.u7 (σ := (up σ 46 7 0)) (j := 7) (v := 2) (by decide)))).done hmi⟩))
    · skip
      exact absurd hb2 (by omega)
  · skip
    refine r_if_ne (tgt := 21) dX8_weigh_12 (by decide) (by omega) (fun hb4 => ?_) (fun hb4 => ?_)
    · skip
      exact absurd hb4 (by omega)
    · skip
      refine r_aload_n dX8_weigh_15 rfl rfl ?_
      refine r_iconst dX8_weigh_16 ?_
      refine r_callV (tX8_refuses G (up σ 46 7 0) 1) dX8_weigh_17 svX8_refuses q674 sh46 (ci := 8) rfl rfl rfl ⟨Nat.le_of_ble_eq_true rfl, Nat.le_of_ble_eq_true rfl⟩ (Nat.le_of_ble_eq_true rfl) ⟨Nat.le_of_ble_eq_true rfl, Nat.le_of_ble_eq_true rfl⟩ ?_
      rintro _ _ ⟨rfl, rfl⟩
      exact r_iret dX8_weigh_20 rfl (by rw [hP]; exact by rw [oWeigh_m]; first | (rw [if_neg (by omega)]; exact ⟨rfl, up_eq, ((((Qm.refl σ).tr (Qm.u7 (σ := σ) (j := 7) (v := 0) (by decide))).tr (Qm.u7 (σ := (up σ 46 7 0)) (j := 7) (v := 1) (by decide)))).done hmi⟩) | (rw [if_pos (by omega), if_neg (by omega)]; exact ⟨rfl, up_eq, ((((Qm.refl σ).tr (Qm.u7 (σ := σ) (j := 7) (v := 0) (by decide))).tr (Qm.u7 (σ := (up σ 46 7 0)) (j := 7) (v := 1) (by decide)))).done hmi⟩) | (rw [if_pos (by omega), if_pos (by omega)]; exact ⟨rfl, up_eq, ((((Qm.refl σ).tr (Qm.u7 (σ := σ) (j := 7) (v := 0) (by decide))).tr (Qm.u7 (σ := (up σ 46 7 0)) (j := 7) (v := 1) (by decide)))).done hmi⟩))
set_option maxHeartbeats 1000000 in
set_option maxRecDepth 100000 in
theorem tX8_unweigh (G : GT) (σ : Sg)  (hmi : IM σ) : Ct G mX8_unweigh 3 0 0 false SH SH [Rf G 46] σ (MkP σ (oUnweigh (absM σ))) := by
  obtain ⟨P, hP⟩ : ∃ P : Option Value → Sg → Prop, P = (MkP σ (oUnweigh (absM σ))) := ⟨_, rfl⟩
  rw [← hP]
  refine ct_of (lv := [(0, Rf G 46)]) (by decide +kernel) (Nat.le_of_ble_eq_true rfl) rfl ?_
  obtain ⟨hR, hC, hn, hT, hwt, hp52, h2, h6, hbf⟩ := hmi.us
  have hO9 : OkS (st0 (σ 47)) := hmi.2.2.2.2.1
  refine r_aload_n dX8_unweigh_0 rfl rfl ?_
  refine r_iconst dX8_unweigh_1 ?_
  refine r_putI (z := 7) tyX8 dX8_unweigh_2 sh46 rfl (ci := 8) (j := 7) rfl (Nat.le_of_ble_eq_true rfl) rfl tyX8_ok nmX8 ixX8 q649 rfl rfl rfl ?_
  refine r_aload_n dX8_unweigh_5 rfl rfl ?_
  refine r_getR (b := 47) dX8_unweigh_6 sh46 rfl (ci := 8) (j := 0) rfl (Nat.le_of_ble_eq_true rfl) ixX8 q642 rfl ?_
  refine r_iconst dX8_unweigh_9 ?_
  refine r_iald dX8_unweigh_10 sh47 (by omega) (hv := congrFun (up_ne (by decide)) 5) ?_
  refine r_iconst dX8_unweigh_11 ?_
  refine r_icmp_ne (tgt := 21) dX8_unweigh_12 (by decide) (by omega) (fun hb1 => ?_) (fun hb1 => ?_)
  · skip
    refine r_aload_n dX8_unweigh_21 rfl rfl ?_
    refine r_callV (tX8_saves G (up σ 46 7 0)  (((Qm.u7 (σ := σ) (j := 7) (v := 0) (by decide)).ci hmi))) dX8_unweigh_22 svX8_saves q677 sh46 (ci := 8) rfl rfl rfl ⟨Nat.le_of_ble_eq_true rfl, Nat.le_of_ble_eq_true rfl⟩ (Nat.le_of_ble_eq_true rfl) ⟨Nat.le_of_ble_eq_true rfl, Nat.le_of_ble_eq_true rfl⟩ ?_
    rintro _ s ⟨rfl, hs⟩
    refine r_aload_n dX8_unweigh_25 rfl rfl ?_
    refine r_getR (b := 47) dX8_unweigh_26 sh46 rfl (ci := 8) (j := 0) rfl (Nat.le_of_ble_eq_true rfl) ixX8 q642 rfl ?_
    refine r_iconst dX8_unweigh_29 ?_
    refine r_dup2 dX8_unweigh_30 rfl rfl ?_
    refine r_iald dX8_unweigh_31 sh47 (by omega) (hv := (congrFun (hs.1 47 (by decide) (by decide)) 5).trans (congrFun (up_ne (by decide)) 5)) ?_
    refine r_iconst dX8_unweigh_32 ?_
    refine r_isub dX8_unweigh_33 ?_
    refine r_iast dX8_unweigh_34 sh47 (by omega) ?_
    refine r_aload_n dX8_unweigh_35 rfl rfl ?_
    refine r_getR (b := 47) dX8_unweigh_36 sh46 rfl (ci := 8) (j := 0) rfl (Nat.le_of_ble_eq_true rfl) ixX8 q642 rfl ?_
    refine r_bipush dX8_unweigh_39 rfl ?_
    refine r_aload_n dX8_unweigh_41 rfl rfl ?_
    refine r_getR (b := 47) dX8_unweigh_42 sh46 rfl (ci := 8) (j := 0) rfl (Nat.le_of_ble_eq_true rfl) ixX8 q642 rfl ?_
    refine r_iconst dX8_unweigh_45 ?_
    refine r_iald dX8_unweigh_46 sh47 (by omega) (hv := up_eq) ?_
    refine r_iadd dX8_unweigh_47 ?_
    refine r_iald dX8_unweigh_48 sh47 (by omega) (hv := rfl) ?_
    refine r_istore_n (lv' := [(0, Rf G 46), (1, I ((up s 47 5 ((σ 47 5) - 1)) 47 (6 + ((σ 47 5) - 1))))]) dX8_unweigh_49 rfl (Nat.le_of_ble_eq_true rfl) rfl ?_
    refine r_aload_n dX8_unweigh_50 rfl rfl ?_
    refine r_getR (b := 47) dX8_unweigh_51 sh46 rfl (ci := 8) (j := 0) rfl (Nat.le_of_ble_eq_true rfl) ixX8 q642 rfl ?_
    refine r_bipush dX8_unweigh_54 rfl ?_
    refine r_aload_n dX8_unweigh_56 rfl rfl ?_
    refine r_getR (b := 47) dX8_unweigh_57 sh46 rfl (ci := 8) (j := 0) rfl (Nat.le_of_ble_eq_true rfl) ixX8 q642 rfl ?_
    refine r_iconst dX8_unweigh_60 ?_
    refine r_iald dX8_unweigh_61 sh47 (by omega) (hv := up_eq) ?_
    refine r_iadd dX8_unweigh_62 ?_
    refine r_iconst dX8_unweigh_63 ?_
    refine r_iast dX8_unweigh_64 sh47 (by omega) ?_
    refine r_iload_n dX8_unweigh_65 rfl rfl ?_
    exact r_iret dX8_unweigh_66 rfl (by rw [hP]; exact by rw [oUnweigh_m, if_neg (by omega)]; exact ⟨by show some (I (rs (σ 47 5) (fun i => σ 47 (6 + i)) (σ 47 5 - 1))) = _; rw [rs_at (by omega)]; try (rw [up_nj (by omega), hs.1 47 (by decide) (by decide), up_ne (by decide)]), ((congrFun (up_ne (by decide)) 7).trans ((congrFun (up_ne (by decide)) 7).trans ((hs.2.1 7 (by decide)).trans (up_eq)))), aftN hmi (Qm.u7 (σ := σ) (j := 7) (v := 0) (by decide)) hs (Nm.u (Nm.u (Nm.refl s) (i := 5) (v := ((σ 47 5) - 1))) (i := (6 + ((σ 47 5) - 1))) (v := 0)) ((congrFun (up_ne (by decide)) 6).trans ((congrFun (up_ne (by decide)) 6).trans ((hs.2.1 6 (by decide)).trans (up_nj (by decide))))) (σ 47 0, σ 47 1, σ 47 5 - 1, σ 47 2, σ 47 3, σ 47 4, tM (σ 47), fu (nW (st0 (σ 47))) (σ 47 5 - 1) 0) ((up_nj (by omega)).trans ((up_nj (by decide)).trans ((congrFun (hs.1 47 (by decide) (by decide)) 0).trans (congrFun (up_ne (by decide)) 0)))) ((up_nj (by omega)).trans ((up_nj (by decide)).trans ((congrFun (hs.1 47 (by decide) (by decide)) 1).trans (congrFun (up_ne (by decide)) 1)))) ((up_nj (by omega)).trans (up_eq)) ((up_nj (by omega)).trans ((up_nj (by decide)).trans ((congrFun (hs.1 47 (by decide) (by decide)) 2).trans (congrFun (up_ne (by decide)) 2)))) ((up_nj (by omega)).trans ((up_nj (by decide)).trans ((congrFun (hs.1 47 (by decide) (by decide)) 3).trans (congrFun (up_ne (by decide)) 3)))) ((up_nj (by omega)).trans ((up_nj (by decide)).trans ((congrFun (hs.1 47 (by decide) (by decide)) 4).trans (congrFun (up_ne (by decide)) 4)))) (fun i a b => by rw [up_nj (by omega), up_nj (by omega), hs.1 47 (by decide) (by decide), up_ne (by decide)]; exact tM_at ⟨a, b⟩) (fun i a b => by have b : i < σ 47 5 - 1 := b; show _ = fu (rs (σ 47 5) (fun i => σ 47 (6 + i))) (σ 47 5 - 1) 0 i; unfold fu; rw [if_neg (by omega), up_nj (by omega), up_nj (by omega), hs.1 47 (by decide) (by decide), up_ne (by decide), rs_at (by omega)]) (OkS_sub hO9 (by show 1 < σ 47 5; omega))⟩)
  · skip
    refine r_aload_n dX8_unweigh_15 rfl rfl ?_
    refine r_iconst dX8_unweigh_16 ?_
    refine r_callV (tX8_refuses G (up σ 46 7 0) 1) dX8_unweigh_17 svX8_refuses q674 sh46 (ci := 8) rfl rfl rfl ⟨Nat.le_of_ble_eq_true rfl, Nat.le_of_ble_eq_true rfl⟩ (Nat.le_of_ble_eq_true rfl) ⟨Nat.le_of_ble_eq_true rfl, Nat.le_of_ble_eq_true rfl⟩ ?_
    rintro _ _ ⟨rfl, rfl⟩
    exact r_iret dX8_unweigh_20 rfl (by rw [hP]; exact by rw [oUnweigh_m, if_pos (by omega)]; exact ⟨rfl, up_eq, ((((Qm.refl σ).tr (Qm.u7 (σ := σ) (j := 7) (v := 0) (by decide))).tr (Qm.u7 (σ := (up σ 46 7 0)) (j := 7) (v := 1) (by decide)))).done hmi⟩)
set_option maxHeartbeats 1000000 in
set_option maxRecDepth 100000 in
theorem tX8_find (G : GT) (σ : Sg) (w : Int) (hmi : IM σ) (hrg : (-2147483648 ≤ w ∧ w ≤ 2147483647)) : Ct G mX8_find 6 0 0 false SH SH [Rf G 46, I w] σ (MkP σ (oFind (absM σ) w)) := by
  obtain ⟨P, hP⟩ : ∃ P : Option Value → Sg → Prop, P = (MkP σ (oFind (absM σ) w)) := ⟨_, rfl⟩
  rw [← hP]
  refine ct_of (lv := [(0, Rf G 46), (1, I w)]) (by decide +kernel) (Nat.le_of_ble_eq_true rfl) rfl ?_
  obtain ⟨hR, hC, hn, hT, hwt, hp52, h2, h6, hbf⟩ := hmi.us
  have hO9 : OkS (st0 (σ 47)) := hmi.2.2.2.2.1
  refine r_aload_n dX8_find_0 rfl rfl ?_
  refine r_iconst dX8_find_1 ?_
  refine r_putI (z := 7) tyX8 dX8_find_2 sh46 rfl (ci := 8) (j := 7) rfl (Nat.le_of_ble_eq_true rfl) rfl tyX8_ok nmX8 ixX8 q649 rfl rfl rfl ?_
  refine r_iload_n dX8_find_5 rfl rfl ?_
  refine r_iconst dX8_find_6 ?_
  refine r_iconst dX8_find_7 ?_
  refine r_callS (tX8_in G (up σ 46 7 0) w 0 2 (by omega)) dX8_find_8 svX8_in q671 rfl ⟨Nat.le_of_ble_eq_true rfl, Nat.le_of_ble_eq_true rfl⟩ (Nat.le_of_ble_eq_true rfl) ⟨Nat.le_of_ble_eq_true rfl, Nat.le_of_ble_eq_true rfl⟩ ?_
  rintro _ _ ⟨⟨hq1, rfl⟩ | ⟨hq1, rfl⟩, rfl⟩
  · skip
    refine r_if_ne (tgt := 20) dX8_find_11 (by decide) (by omega) (fun hb2 => ?_) (fun hb2 => ?_)
    · skip
      refine r_aload_n dX8_find_20 rfl rfl ?_
      refine r_iload_n dX8_find_21 rfl rfl ?_
      refine r_callV (tX8_canGo G (up σ 46 7 0) w (((Qm.u7 (σ := σ) (j := 7) (v := 0) (by decide)).ci hmi).us.1) (((Qm.u7 (σ := σ) (j := 7) (v := 0) (by decide)).ci hmi).us.2.1) (((Qm.u7 (σ := σ) (j := 7) (v := 0) (by decide)).ci hmi).us.2.2.2.1) (by omega)) dX8_find_22 svX8_canGo q720 sh46 (ci := 8) rfl rfl rfl ⟨Nat.le_of_ble_eq_true rfl, Nat.le_of_ble_eq_true rfl⟩ (Nat.le_of_ble_eq_true rfl) ⟨Nat.le_of_ble_eq_true rfl, Nat.le_of_ble_eq_true rfl⟩ ?_
      rintro _ _ ⟨⟨hk, rfl⟩ | ⟨hk, rfl⟩, rfl⟩
      · skip
        rw [up_ne (by decide)] at hk
        refine r_if_ne (tgt := 34) dX8_find_25 (by decide) (by omega) (fun hb3 => ?_) (fun hb3 => ?_)
        · skip
          refine r_aload_n dX8_find_34 rfl rfl ?_
          refine r_callV (tX8_saves G (up σ 46 7 0)  (((Qm.u7 (σ := σ) (j := 7) (v := 0) (by decide)).ci hmi))) dX8_find_35 svX8_saves q677 sh46 (ci := 8) rfl rfl rfl ⟨Nat.le_of_ble_eq_true rfl, Nat.le_of_ble_eq_true rfl⟩ (Nat.le_of_ble_eq_true rfl) ⟨Nat.le_of_ble_eq_true rfl, Nat.le_of_ble_eq_true rfl⟩ ?_
          rintro _ s ⟨rfl, hs⟩
          have e47 : s 47 = σ 47 := by rw [hs.1 47 (by decide) (by decide), up_ne (by decide)]
          refine r_aload_n dX8_find_38 rfl rfl ?_
          refine r_iload_n dX8_find_39 rfl rfl ?_
          refine r_callV (tX8_finds G s w (by rw [e47]; exact hR) (by rw [e47]; exact hC) (by rw [hs.1 52 (by decide) (by decide), up_ne (by decide)]; exact hp52) (by omega) (by rw [e47]; exact hT)) dX8_find_40 svX8_finds q723 sh46 (ci := 8) rfl rfl rfl ⟨Nat.le_of_ble_eq_true rfl, Nat.le_of_ble_eq_true rfl⟩ (Nat.le_of_ble_eq_true rfl) ⟨Nat.le_of_ble_eq_true rfl, Nat.le_of_ble_eq_true rfl⟩ ?_
          rintro _ u ⟨rfl, hp⟩
          have u9 : u 46 9 = LW (tM (σ 47)) (σ 47 0) (σ 47 1) w := by rw [hp.2.2.1, e47]
          have u47 : u 47 = σ 47 := by rw [hp.1 47 (by decide) (by decide), e47]
          refine r_aload_n dX8_find_43 rfl rfl ?_
          refine r_getR (b := 47) dX8_find_44 sh46 rfl (ci := 8) (j := 0) rfl (Nat.le_of_ble_eq_true rfl) ixX8 q642 rfl ?_
          refine r_iconst dX8_find_47 ?_
          refine r_dup2 dX8_find_48 rfl rfl ?_
          refine r_iald dX8_find_49 sh47 (by omega) (hv := (congrFun (hp.1 47 (by decide) (by decide)) 2).trans ((congrFun (hs.1 47 (by decide) (by decide)) 2).trans (congrFun (up_ne (by decide)) 2))) ?_
          refine r_aload_n dX8_find_50 rfl rfl ?_
          refine r_getI (z := 9) dX8_find_51 sh46 rfl (ci := 8) (j := 9) rfl (Nat.le_of_ble_eq_true rfl) rfl ixX8 q651 rfl (hv := u9) ?_
          refine r_iadd dX8_find_54 ?_
          refine r_iast dX8_find_55 sh47 (by omega) ?_
          refine r_aload_n dX8_find_56 rfl rfl ?_
          refine r_getR (b := 47) dX8_find_57 sh46 rfl (ci := 8) (j := 0) rfl (Nat.le_of_ble_eq_true rfl) ixX8 q642 rfl ?_
          refine r_iconst dX8_find_60 ?_
          refine r_dup2 dX8_find_61 rfl rfl ?_
          refine r_iald dX8_find_62 sh47 (by omega) (hv := (up_nj (by decide)).trans ((congrFun (hp.1 47 (by decide) (by decide)) 3).trans ((congrFun (hs.1 47 (by decide) (by decide)) 3).trans (congrFun (up_ne (by decide)) 3)))) ?_
          refine r_iconst dX8_find_63 ?_
          refine r_iadd dX8_find_64 ?_
          refine r_iast dX8_find_65 sh47 (by omega) ?_
          refine r_aload_n dX8_find_66 rfl rfl ?_
          refine r_getI (z := 9) dX8_find_67 sh46 rfl (ci := 8) (j := 9) rfl (Nat.le_of_ble_eq_true rfl) rfl ixX8 q651 rfl (hv := (congrFun (up_ne (by decide)) 9).trans ((congrFun (up_ne (by decide)) 9).trans (u9))) ?_
          exact r_iret dX8_find_70 rfl (by rw [hP]; exact by rw [oFind_m, if_pos (by omega), if_pos hk]; exact ⟨rfl, ((congrFun (up_ne (by decide)) 7).trans ((congrFun (up_ne (by decide)) 7).trans ((hp.2.1 7 (by decide) (by decide)).trans ((hs.2.1 7 (by decide)).trans (up_eq))))), aftN hmi (Qm.u7 (σ := σ) (j := 7) (v := 0) (by decide)) hs (Nm.u (Nm.u (Nm.q (Nm.refl s) (Qm.fd hp)) (i := 2) (v := ((σ 47 2) + (LW (tM (σ 47)) (σ 47 0) (σ 47 1) w)))) (i := 3) (v := ((σ 47 3) + 1))) ((congrFun (up_ne (by decide)) 6).trans ((congrFun (up_ne (by decide)) 6).trans ((hp.2.1 6 (by decide) (by decide)).trans ((hs.2.1 6 (by decide)).trans (up_nj (by decide)))))) (σ 47 0, σ 47 1, σ 47 5, σ 47 2 + LW (tM (σ 47)) (σ 47 0) (σ 47 1) w, σ 47 3 + 1, (st0 (σ 47)).2.2.2.2.2) ((up_nj (by decide)).trans ((up_nj (by decide)).trans ((congrFun (hp.1 47 (by decide) (by decide)) 0).trans ((congrFun (hs.1 47 (by decide) (by decide)) 0).trans (congrFun (up_ne (by decide)) 0))))) ((up_nj (by decide)).trans ((up_nj (by decide)).trans ((congrFun (hp.1 47 (by decide) (by decide)) 1).trans ((congrFun (hs.1 47 (by decide) (by decide)) 1).trans (congrFun (up_ne (by decide)) 1))))) ((up_nj (by decide)).trans ((up_nj (by decide)).trans ((congrFun (hp.1 47 (by decide) (by decide)) 5).trans ((congrFun (hs.1 47 (by decide) (by decide)) 5).trans (congrFun (up_ne (by decide)) 5))))) ((up_nj (by decide)).trans (up_eq)) up_eq ((up_nj (by decide)).trans ((up_nj (by decide)).trans ((congrFun (hp.1 47 (by decide) (by decide)) 4).trans ((congrFun (hs.1 47 (by decide) (by decide)) 4).trans (congrFun (up_ne (by decide)) 4))))) (fun i a b => by rw [up_nj (by omega), up_nj (by omega), u47]; exact tM_at ⟨a, b⟩) (fun i a b => by have b : i < σ 47 5 := b; rw [up_nj (by omega), up_nj (by omega), u47]; exact rs7 a b) (hO9)⟩)
        · skip
          exact absurd hb3 (by omega)
      · skip
        rw [up_ne (by decide)] at hk
        refine r_if_ne (tgt := 34) dX8_find_25 (by decide) (by omega) (fun hb4 => ?_) (fun hb4 => ?_)
        · skip
          exact absurd hb4 (by omega)
        · skip
          refine r_aload_n dX8_find_28 rfl rfl ?_
          refine r_iconst dX8_find_29 ?_
          refine r_callV (tX8_refuses G (up σ 46 7 0) 2) dX8_find_30 svX8_refuses q674 sh46 (ci := 8) rfl rfl rfl ⟨Nat.le_of_ble_eq_true rfl, Nat.le_of_ble_eq_true rfl⟩ (Nat.le_of_ble_eq_true rfl) ⟨Nat.le_of_ble_eq_true rfl, Nat.le_of_ble_eq_true rfl⟩ ?_
          rintro _ _ ⟨rfl, rfl⟩
          exact r_iret dX8_find_33 rfl (by rw [hP]; exact by rw [oFind_m, if_pos (by omega), if_neg hk]; exact ⟨rfl, up_eq, ((((Qm.refl σ).tr (Qm.u7 (σ := σ) (j := 7) (v := 0) (by decide))).tr (Qm.u7 (σ := (up σ 46 7 0)) (j := 7) (v := 2) (by decide)))).done hmi⟩)
    · skip
      exact absurd hb2 (by omega)
  · skip
    refine r_if_ne (tgt := 20) dX8_find_11 (by decide) (by omega) (fun hb5 => ?_) (fun hb5 => ?_)
    · skip
      exact absurd hb5 (by omega)
    · skip
      refine r_aload_n dX8_find_14 rfl rfl ?_
      refine r_iconst dX8_find_15 ?_
      refine r_callV (tX8_refuses G (up σ 46 7 0) 1) dX8_find_16 svX8_refuses q674 sh46 (ci := 8) rfl rfl rfl ⟨Nat.le_of_ble_eq_true rfl, Nat.le_of_ble_eq_true rfl⟩ (Nat.le_of_ble_eq_true rfl) ⟨Nat.le_of_ble_eq_true rfl, Nat.le_of_ble_eq_true rfl⟩ ?_
      rintro _ _ ⟨rfl, rfl⟩
      exact r_iret dX8_find_19 rfl (by rw [hP]; exact by rw [oFind_m]; first | (rw [if_neg (by omega)]; exact ⟨rfl, up_eq, ((((Qm.refl σ).tr (Qm.u7 (σ := σ) (j := 7) (v := 0) (by decide))).tr (Qm.u7 (σ := (up σ 46 7 0)) (j := 7) (v := 1) (by decide)))).done hmi⟩) | (rw [if_pos (by omega), if_neg (by omega)]; exact ⟨rfl, up_eq, ((((Qm.refl σ).tr (Qm.u7 (σ := σ) (j := 7) (v := 0) (by decide))).tr (Qm.u7 (σ := (up σ 46 7 0)) (j := 7) (v := 1) (by decide)))).done hmi⟩) | (rw [if_pos (by omega), if_pos (by omega)]; exact ⟨rfl, up_eq, ((((Qm.refl σ).tr (Qm.u7 (σ := σ) (j := 7) (v := 0) (by decide))).tr (Qm.u7 (σ := (up σ 46 7 0)) (j := 7) (v := 1) (by decide)))).done hmi⟩))
set_option maxHeartbeats 1000000 in
set_option maxRecDepth 100000 in
theorem tX8_mend (G : GT) (σ : Sg)  (hmi : IM σ) : Ct G mX8_mend 4 0 0 false SH SH [Rf G 46] σ (MkP σ (oMend (absM σ))) := by
  obtain ⟨P, hP⟩ : ∃ P : Option Value → Sg → Prop, P = (MkP σ (oMend (absM σ))) := ⟨_, rfl⟩
  rw [← hP]
  refine ct_of (lv := [(0, Rf G 46)]) (by decide +kernel) (Nat.le_of_ble_eq_true rfl) rfl ?_
  obtain ⟨hR, hC, hn, hT, hwt, hp52, h2, h6, hbf⟩ := hmi.us
  have hO9 : OkS (st0 (σ 47)) := hmi.2.2.2.2.1
  have hfb := wfst_bd (C := σ 47 1) (T := tM (σ 47)) (100 * (σ 47 0 - 1)).toNat
  obtain ⟨f, hf⟩ : ∃ f, f = wfst (σ 47 1) (tM (σ 47)) (100 * (σ 47 0 - 1)).toNat := ⟨_, rfl⟩
  rw [← hf] at hfb
  have hwf : wF (st0 (σ 47)) = f := by rw [hf]; rfl
  refine r_aload_n dX8_mend_0 rfl rfl ?_
  refine r_iconst dX8_mend_1 ?_
  refine r_putI (z := 7) tyX8 dX8_mend_2 sh46 rfl (ci := 8) (j := 7) rfl (Nat.le_of_ble_eq_true rfl) rfl tyX8_ok nmX8 ixX8 q649 rfl rfl rfl ?_
  refine r_aload_n dX8_mend_5 rfl rfl ?_
  refine r_callV (tX8_first G (up σ 46 7 0)  (((Qm.u7 (σ := σ) (j := 7) (v := 0) (by decide)).ci hmi).us.1) (((Qm.u7 (σ := σ) (j := 7) (v := 0) (by decide)).ci hmi).us.2.1) (((Qm.u7 (σ := σ) (j := 7) (v := 0) (by decide)).ci hmi).us.2.2.2.1)) dX8_mend_6 svX8_first q706 sh46 (ci := 8) rfl rfl rfl ⟨Nat.le_of_ble_eq_true rfl, Nat.le_of_ble_eq_true rfl⟩ (Nat.le_of_ble_eq_true rfl) ⟨Nat.le_of_ble_eq_true rfl, Nat.le_of_ble_eq_true rfl⟩ ?_
  rintro _ _ ⟨rfl, rfl⟩
  rw [show (up σ 46 7 0) 47 1 = σ 47 1 from congrFun (up_ne (by decide)) 1]
  rw [show (up σ 46 7 0) 47 0 = σ 47 0 from congrFun (up_ne (by decide)) 0]
  rw [up_ne (by decide), ← hf]
  refine r_istore_n (lv' := [(0, Rf G 46), (1, I f)]) dX8_mend_9 rfl (Nat.le_of_ble_eq_true rfl) rfl ?_
  refine r_aload_n dX8_mend_10 rfl rfl ?_
  refine r_callV (tX8_saves G (up σ 46 7 0)  (((Qm.u7 (σ := σ) (j := 7) (v := 0) (by decide)).ci hmi))) dX8_mend_11 svX8_saves q677 sh46 (ci := 8) rfl rfl rfl ⟨Nat.le_of_ble_eq_true rfl, Nat.le_of_ble_eq_true rfl⟩ (Nat.le_of_ble_eq_true rfl) ⟨Nat.le_of_ble_eq_true rfl, Nat.le_of_ble_eq_true rfl⟩ ?_
  rintro _ s ⟨rfl, hs⟩
  have e47 : s 47 = σ 47 := by rw [hs.1 47 (by decide) (by decide), up_ne (by decide)]
  refine r_iload_n dX8_mend_14 rfl rfl ?_
  refine r_iconst dX8_mend_15 ?_
  refine r_icmp_ne (tgt := 21) dX8_mend_16 (by decide) (by omega) (fun hb1 => ?_) (fun hb1 => ?_)
  · skip
    have hfb2 : 0 ≤ f ∧ f < 900 := by omega
    have hv9 := hT (10 * (f / 100 + 1) + f % 10)
    refine r_iload_n dX8_mend_21 rfl rfl ?_
    refine r_bipush dX8_mend_22 rfl ?_
    refine r_idiv dX8_mend_24 (by omega) ?_
    refine r_istore_n (lv' := [(0, Rf G 46), (1, I f), (2, I (f / 100))]) dX8_mend_25 rfl (Nat.le_of_ble_eq_true rfl) rfl ?_
    refine r_aload_n dX8_mend_26 rfl rfl ?_
    refine r_iload_n dX8_mend_27 rfl rfl ?_
    refine r_iconst dX8_mend_28 ?_
    refine r_iadd dX8_mend_29 ?_
    refine r_iload_n dX8_mend_30 rfl rfl ?_
    refine r_bipush dX8_mend_31 rfl ?_
    refine r_irem dX8_mend_33 (by omega) ?_
    refine r_callV (tX8_at G s ((f / 100) + 1) (f % 10) (by omega)) dX8_mend_34 svX8_at q693 sh46 (ci := 8) rfl rfl rfl ⟨Nat.le_of_ble_eq_true rfl, Nat.le_of_ble_eq_true rfl⟩ (Nat.le_of_ble_eq_true rfl) ⟨Nat.le_of_ble_eq_true rfl, Nat.le_of_ble_eq_true rfl⟩ ?_
    rintro _ _ ⟨rfl, rfl⟩
    rw [e47]
    refine r_iconst dX8_mend_37 ?_
    refine r_iadd dX8_mend_38 ?_
    refine r_istore_n (lv' := [(0, Rf G 46), (1, I f), (2, I (f / 100)), (3, I ((tM (σ 47) (10 * (f / 100 + 1) + f % 10)) + 1))]) dX8_mend_39 rfl (Nat.le_of_ble_eq_true rfl) rfl ?_
    refine r_iload_n dX8_mend_40 rfl rfl ?_
    refine r_sipush dX8_mend_41 rfl ?_
    refine r_icmp_le (tgt := 49) dX8_mend_44 (by decide) (by omega) (fun hb2 => ?_) (fun hb2 => ?_)
    · skip
      refine r_aload_n dX8_mend_49 rfl rfl ?_
      refine r_iload_n dX8_mend_50 rfl rfl ?_
      refine r_iconst dX8_mend_51 ?_
      refine r_iadd dX8_mend_52 ?_
      refine r_iload_n dX8_mend_53 rfl rfl ?_
      refine r_bipush dX8_mend_54 rfl ?_
      refine r_idiv dX8_mend_56 (by omega) ?_
      refine r_bipush dX8_mend_57 rfl ?_
      refine r_irem dX8_mend_59 (by omega) ?_
      refine r_iload_n dX8_mend_60 rfl rfl ?_
      refine r_callV (tX8_becomes G s ((f / 100) + 1) ((f / 10) % 10) ((tM (σ 47) (10 * (f / 100 + 1) + f % 10)) + 1) (by omega)) dX8_mend_61 svX8_becomes q696 sh46 (ci := 8) rfl rfl rfl ⟨Nat.le_of_ble_eq_true rfl, Nat.le_of_ble_eq_true rfl⟩ (Nat.le_of_ble_eq_true rfl) ⟨Nat.le_of_ble_eq_true rfl, Nat.le_of_ble_eq_true rfl⟩ ?_
      rintro _ _ ⟨rfl, rfl⟩
      refine r_aload_n dX8_mend_64 rfl rfl ?_
      refine r_getR (b := 47) dX8_mend_65 sh46 rfl (ci := 8) (j := 0) rfl (Nat.le_of_ble_eq_true rfl) ixX8 q642 rfl ?_
      refine r_iconst dX8_mend_68 ?_
      refine r_dup2 dX8_mend_69 rfl rfl ?_
      refine r_iald dX8_mend_70 sh47 (by omega) (hv := (up_nj (by omega)).trans ((congrFun (hs.1 47 (by decide) (by decide)) 4).trans (congrFun (up_ne (by decide)) 4))) ?_
      refine r_iconst dX8_mend_71 ?_
      refine r_iadd dX8_mend_72 ?_
      refine r_iast dX8_mend_73 sh47 (by omega) ?_
      refine r_iload_n dX8_mend_74 rfl rfl ?_
      exact r_iret dX8_mend_75 rfl (by rw [hP]; exact by have hTT := OkS_T hO9 (i := 10 * (f / 100 + 1) + f / 10 % 10) (v := tM (σ 47) (10 * (f / 100 + 1) + f % 10) + 1) (by omega) (by omega); rw [oMend_m, hwf, if_neg (by omega), if_neg (by omega)]; exact ⟨rfl, ((congrFun (up_ne (by decide)) 7).trans ((congrFun (up_ne (by decide)) 7).trans ((hs.2.1 7 (by decide)).trans (up_eq)))), aftN hmi (Qm.u7 (σ := σ) (j := 7) (v := 0) (by decide)) hs (Nm.u (Nm.u (Nm.refl s) (i := (16 + (10 * ((f / 100) + 1) + ((f / 10) % 10)))) (v := ((tM (σ 47) (10 * (f / 100 + 1) + f % 10)) + 1))) (i := 4) (v := ((σ 47 4) + 1))) ((congrFun (up_ne (by decide)) 6).trans ((congrFun (up_ne (by decide)) 6).trans ((hs.2.1 6 (by decide)).trans (up_nj (by decide))))) (σ 47 0, σ 47 1, σ 47 5, σ 47 2, σ 47 3, σ 47 4 + 1, fu (tM (σ 47)) (10 * (f / 100 + 1) + f / 10 % 10) (tM (σ 47) (10 * (f / 100 + 1) + f % 10) + 1), nW (st0 (σ 47))) ((up_nj (by decide)).trans ((up_nj (by omega)).trans ((congrFun (hs.1 47 (by decide) (by decide)) 0).trans (congrFun (up_ne (by decide)) 0)))) ((up_nj (by decide)).trans ((up_nj (by omega)).trans ((congrFun (hs.1 47 (by decide) (by decide)) 1).trans (congrFun (up_ne (by decide)) 1)))) ((up_nj (by decide)).trans ((up_nj (by omega)).trans ((congrFun (hs.1 47 (by decide) (by decide)) 5).trans (congrFun (up_ne (by decide)) 5)))) ((up_nj (by decide)).trans ((up_nj (by omega)).trans ((congrFun (hs.1 47 (by decide) (by decide)) 2).trans (congrFun (up_ne (by decide)) 2)))) ((up_nj (by decide)).trans ((up_nj (by omega)).trans ((congrFun (hs.1 47 (by decide) (by decide)) 3).trans (congrFun (up_ne (by decide)) 3)))) up_eq (fun i a b => by rw [up_nj (by omega), tM_put ⟨a, b⟩, e47]) (fun i a b => by have b : i < σ 47 5 := b; rw [up_nj (by omega), up_nj (by omega), e47]; exact rs7 a b) (⟨hO9.1, hO9.2.1, hO9.2.2.1, hTT.1, hTT.2, hO9.2.2.2.2.2⟩)⟩)
    · skip
      refine r_iconst dX8_mend_47 ?_
      exact r_iret dX8_mend_48 rfl (by rw [hP]; exact by rw [oMend_m, hwf, if_neg (by omega), if_pos (by omega)]; exact ⟨rfl, ((hs.2.1 7 (by decide)).trans (up_eq)), aftN hmi (Qm.u7 (σ := σ) (j := 7) (v := 0) (by decide)) hs (Nm.refl s) ((hs.2.1 6 (by decide)).trans (up_nj (by decide))) (st0 (σ 47)) ((congrFun (hs.1 47 (by decide) (by decide)) 0).trans (congrFun (up_ne (by decide)) 0)) ((congrFun (hs.1 47 (by decide) (by decide)) 1).trans (congrFun (up_ne (by decide)) 1)) ((congrFun (hs.1 47 (by decide) (by decide)) 5).trans (congrFun (up_ne (by decide)) 5)) ((congrFun (hs.1 47 (by decide) (by decide)) 2).trans (congrFun (up_ne (by decide)) 2)) ((congrFun (hs.1 47 (by decide) (by decide)) 3).trans (congrFun (up_ne (by decide)) 3)) ((congrFun (hs.1 47 (by decide) (by decide)) 4).trans (congrFun (up_ne (by decide)) 4)) (fun i a b => by rw [e47]; exact tM_at ⟨a, b⟩) (fun i a b => by rw [e47]; exact rs7 a b) (hO9)⟩)
  · skip
    refine r_iconst dX8_mend_19 ?_
    exact r_iret dX8_mend_20 rfl (by rw [hP]; exact by rw [oMend_m, hwf, if_pos (by omega)]; exact ⟨rfl, ((hs.2.1 7 (by decide)).trans (up_eq)), aftN hmi (Qm.u7 (σ := σ) (j := 7) (v := 0) (by decide)) hs (Nm.refl s) ((hs.2.1 6 (by decide)).trans (up_nj (by decide))) (st0 (σ 47)) ((congrFun (hs.1 47 (by decide) (by decide)) 0).trans (congrFun (up_ne (by decide)) 0)) ((congrFun (hs.1 47 (by decide) (by decide)) 1).trans (congrFun (up_ne (by decide)) 1)) ((congrFun (hs.1 47 (by decide) (by decide)) 5).trans (congrFun (up_ne (by decide)) 5)) ((congrFun (hs.1 47 (by decide) (by decide)) 2).trans (congrFun (up_ne (by decide)) 2)) ((congrFun (hs.1 47 (by decide) (by decide)) 3).trans (congrFun (up_ne (by decide)) 3)) ((congrFun (hs.1 47 (by decide) (by decide)) 4).trans (congrFun (up_ne (by decide)) 4)) (fun i a b => by rw [e47]; exact tM_at ⟨a, b⟩) (fun i a b => by rw [e47]; exact rs7 a b) (hO9)⟩)
set_option maxHeartbeats 1000000 in
set_option maxRecDepth 100000 in
theorem tX8_points (G : GT) (σ : Sg) (a b c d : Int) (hmi : IM σ) (hrg : (-2147483648 ≤ a ∧ a ≤ 2147483647) ∧ (-2147483648 ≤ b ∧ b ≤ 2147483647) ∧ (-2147483648 ≤ c ∧ c ≤ 2147483647) ∧ (-2147483648 ≤ d ∧ d ≤ 2147483647)) : Ct G mX8_points 5 0 0 false SH SH [Rf G 46, I a, I b, I c, I d] σ (MkP σ (oPoints (absM σ) a b c d)) := by
  obtain ⟨P, hP⟩ : ∃ P : Option Value → Sg → Prop, P = (MkP σ (oPoints (absM σ) a b c d)) := ⟨_, rfl⟩
  rw [← hP]
  refine ct_of (lv := [(0, Rf G 46), (1, I a), (2, I b), (3, I c), (4, I d)]) (by decide +kernel) (Nat.le_of_ble_eq_true rfl) rfl ?_
  obtain ⟨hR, hC, hn, hT, hwt, hp52, h2, h6, hbf⟩ := hmi.us
  have hO9 : OkS (st0 (σ 47)) := hmi.2.2.2.2.1
  refine r_aload_n dX8_points_0 rfl rfl ?_
  refine r_iconst dX8_points_1 ?_
  refine r_putI (z := 7) tyX8 dX8_points_2 sh46 rfl (ci := 8) (j := 7) rfl (Nat.le_of_ble_eq_true rfl) rfl tyX8_ok nmX8 ixX8 q649 rfl rfl rfl ?_
  refine r_iload_n dX8_points_5 rfl rfl ?_
  refine r_iconst dX8_points_6 ?_
  refine r_bipush dX8_points_7 rfl ?_
  refine r_callS (tX8_in G (up σ 46 7 0) a 0 50 (by omega)) dX8_points_9 svX8_in q671 rfl ⟨Nat.le_of_ble_eq_true rfl, Nat.le_of_ble_eq_true rfl⟩ (Nat.le_of_ble_eq_true rfl) ⟨Nat.le_of_ble_eq_true rfl, Nat.le_of_ble_eq_true rfl⟩ ?_
  rintro _ _ ⟨⟨hq1, rfl⟩ | ⟨hq1, rfl⟩, rfl⟩
  · skip
    refine r_if_eq (tgt := 46) dX8_points_12 (by decide) (by omega) (fun hb2 => ?_) (fun hb2 => ?_)
    · skip
      exact absurd hb2 (by omega)
    · skip
      refine r_iload_n dX8_points_15 rfl rfl ?_
      refine r_iconst dX8_points_16 ?_
      refine r_bipush dX8_points_17 rfl ?_
      refine r_callS (tX8_in G (up σ 46 7 0) b 0 9 (by omega)) dX8_points_19 svX8_in q671 rfl ⟨Nat.le_of_ble_eq_true rfl, Nat.le_of_ble_eq_true rfl⟩ (Nat.le_of_ble_eq_true rfl) ⟨Nat.le_of_ble_eq_true rfl, Nat.le_of_ble_eq_true rfl⟩ ?_
      rintro _ _ ⟨⟨hq3, rfl⟩ | ⟨hq3, rfl⟩, rfl⟩
      · skip
        refine r_if_eq (tgt := 46) dX8_points_22 (by decide) (by omega) (fun hb4 => ?_) (fun hb4 => ?_)
        · skip
          exact absurd hb4 (by omega)
        · skip
          refine r_iload_n dX8_points_25 rfl rfl ?_
          refine r_iconst dX8_points_26 ?_
          refine r_bipush dX8_points_27 rfl ?_
          refine r_callS (tX8_in G (up σ 46 7 0) c 0 50 (by omega)) dX8_points_29 svX8_in q671 rfl ⟨Nat.le_of_ble_eq_true rfl, Nat.le_of_ble_eq_true rfl⟩ (Nat.le_of_ble_eq_true rfl) ⟨Nat.le_of_ble_eq_true rfl, Nat.le_of_ble_eq_true rfl⟩ ?_
          rintro _ _ ⟨⟨hq5, rfl⟩ | ⟨hq5, rfl⟩, rfl⟩
          · skip
            refine r_if_eq (tgt := 46) dX8_points_32 (by decide) (by omega) (fun hb6 => ?_) (fun hb6 => ?_)
            · skip
              exact absurd hb6 (by omega)
            · skip
              refine r_iload dX8_points_35 rfl ?_
              refine r_iconst dX8_points_37 ?_
              refine r_bipush dX8_points_38 rfl ?_
              refine r_callS (tX8_in G (up σ 46 7 0) d 0 9 (by omega)) dX8_points_40 svX8_in q671 rfl ⟨Nat.le_of_ble_eq_true rfl, Nat.le_of_ble_eq_true rfl⟩ (Nat.le_of_ble_eq_true rfl) ⟨Nat.le_of_ble_eq_true rfl, Nat.le_of_ble_eq_true rfl⟩ ?_
              rintro _ _ ⟨⟨hq7, rfl⟩ | ⟨hq7, rfl⟩, rfl⟩
              · skip
                refine r_if_ne (tgt := 52) dX8_points_43 (by decide) (by omega) (fun hb8 => ?_) (fun hb8 => ?_)
                · skip
                  refine r_aload_n dX8_points_52 rfl rfl ?_
                  refine r_callV (tX8_saves G (up σ 46 7 0)  (((Qm.u7 (σ := σ) (j := 7) (v := 0) (by decide)).ci hmi))) dX8_points_53 svX8_saves q677 sh46 (ci := 8) rfl rfl rfl ⟨Nat.le_of_ble_eq_true rfl, Nat.le_of_ble_eq_true rfl⟩ (Nat.le_of_ble_eq_true rfl) ⟨Nat.le_of_ble_eq_true rfl, Nat.le_of_ble_eq_true rfl⟩ ?_
                  rintro _ s ⟨rfl, hs⟩
                  have e47 : s 47 = σ 47 := by rw [hs.1 47 (by decide) (by decide), up_ne (by decide)]
                  refine r_iconst dX8_points_56 ?_
                  refine r_istore (lv' := [(0, Rf G 46), (1, I a), (2, I b), (3, I c), (4, I d), (5, I 0)]) dX8_points_57 (Nat.le_of_ble_eq_true rfl) rfl ?_
                  have L59 : ∀ (mm : Nat) (k : Int) (u : Sg), (10 * σ 47 0 - k).toNat = mm → (hkk : 0 ≤ k ∧ k ≤ 10 * σ 47 0) → (hu : ∀ o, o ≠ 47 → u o = s o) → (hul : ∀ j, j < 16 → u 47 j = σ 47 j) → (hu2 : tM (u 47) = ptL k (σ 47 1) a b c d (tM (σ 47))) → Rn G mX8_points (rmD 5 0 0) E0 (Zn G false SH P 0 0) false SH 0 0 59 [(0, Rf G 46), (1, I a), (2, I b), (3, I c), (4, I d), (5, I k)] [] u := by
                    intro mm
                    induction mm using Nat.strongRecOn with
                    | _ mm ih59 =>
                    intro k u hm59 hkk hu hul hu2
                    refine r_iload dX8_points_59 rfl ?_
                    refine r_bipush dX8_points_61 rfl ?_
                    refine r_aload_n dX8_points_63 rfl rfl ?_
                    refine r_getR (b := 47) dX8_points_64 sh46 rfl (ci := 8) (j := 0) rfl (Nat.le_of_ble_eq_true rfl) ixX8 q642 rfl ?_
                    refine r_iconst dX8_points_67 ?_
                    refine r_iald dX8_points_68 sh47 (by omega) (hv := (hul 0 (by decide))) ?_
                    refine r_imul dX8_points_69 ?_
                    refine r_icmp_ge (tgt := 151) dX8_points_70 (by decide) (by omega) (fun hb9 => ?_) (fun hb9 => ?_)
                    · skip
                      have hnu : Nm s u := ⟨fun o h => hu o (by omega), by rw [hu 46 (by decide)], fun h => by unfold P52; rw [hu 52 (by decide)]; exact h⟩
                      have hu2F : tM (u 47) = ptF (σ 47 0) (σ 47 1) a b c d (tM (σ 47)) := by rw [hu2, show k = 10 * σ 47 0 by omega]; rfl
                      refine r_aload_n dX8_points_151 rfl rfl ?_
                      refine r_callV (tX8_isKeeping G u  (by rw [hul 0 (by decide)]; exact hR) (by rw [hul 1 (by decide)]; exact hC) (by rw [hu2F]; exact (ptF_ok hO9 (a := a) (b := b) (c := c) (d := d)).1)) dX8_points_152 svX8_isKeeping q703 sh46 (ci := 8) rfl rfl rfl ⟨Nat.le_of_ble_eq_true rfl, Nat.le_of_ble_eq_true rfl⟩ (Nat.le_of_ble_eq_true rfl) ⟨Nat.le_of_ble_eq_true rfl, Nat.le_of_ble_eq_true rfl⟩ ?_
                      rintro _ _ ⟨⟨hk, rfl⟩ | ⟨hk, rfl⟩, rfl⟩
                      · skip
                        rw [hul 0 (by decide), hul 1 (by decide), hu2F] at hk
                        refine r_if_eq (tgt := 162) dX8_points_155 (by decide) (by omega) (fun hb10 => ?_) (fun hb10 => ?_)
                        · skip
                          exact absurd hb10 (by omega)
                        · skip
                          refine r_iconst dX8_points_158 ?_
                          refine r_goto (tgt := 163) dX8_points_159 (by decide) ?_
                          exact r_iret dX8_points_163 rfl (by rw [hP]; exact by rw [oPoints_m, if_pos (by omega)]; have hTT := ptF_ok hO9 (a := a) (b := b) (c := c) (d := d); (first | rw [if_pos hk] | rw [if_neg hk]); exact ⟨rfl, (((congrFun (hu 46 (by decide)) 7)).trans ((hs.2.1 7 (by decide)).trans (up_eq))), aftN hmi (Qm.u7 (σ := σ) (j := 7) (v := 0) (by decide)) hs hnu (((congrFun (hu 46 (by decide)) 6)).trans ((hs.2.1 6 (by decide)).trans (up_nj (by decide)))) (setT (st0 (σ 47)) (ptF (σ 47 0) (σ 47 1) a b c d (tM (σ 47)))) (hul 0 (by decide)) (hul 1 (by decide)) (hul 5 (by decide)) (hul 2 (by decide)) (hul 3 (by decide)) (hul 4 (by decide)) (fun i p q => by rw [show u 47 (16 + i) = tM (u 47) i from tM_at ⟨p, q⟩, hu2F]) (fun i p q => by have q : i < σ 47 5 := q; rw [hul (6 + i) (by omega)]; exact rs7 p q) (⟨hO9.1, hO9.2.1, hO9.2.2.1, hTT.1, hTT.2, hO9.2.2.2.2.2⟩)⟩)
                      · skip
                        rw [hul 0 (by decide), hul 1 (by decide), hu2F] at hk
                        refine r_if_eq (tgt := 162) dX8_points_155 (by decide) (by omega) (fun hb11 => ?_) (fun hb11 => ?_)
                        · skip
                          refine r_iconst dX8_points_162 ?_
                          exact r_iret dX8_points_163 rfl (by rw [hP]; exact by rw [oPoints_m, if_pos (by omega)]; have hTT := ptF_ok hO9 (a := a) (b := b) (c := c) (d := d); (first | rw [if_pos hk] | rw [if_neg hk]); exact ⟨rfl, (((congrFun (hu 46 (by decide)) 7)).trans ((hs.2.1 7 (by decide)).trans (up_eq))), aftN hmi (Qm.u7 (σ := σ) (j := 7) (v := 0) (by decide)) hs hnu (((congrFun (hu 46 (by decide)) 6)).trans ((hs.2.1 6 (by decide)).trans (up_nj (by decide)))) (setT (st0 (σ 47)) (ptF (σ 47 0) (σ 47 1) a b c d (tM (σ 47)))) (hul 0 (by decide)) (hul 1 (by decide)) (hul 5 (by decide)) (hul 2 (by decide)) (hul 3 (by decide)) (hul 4 (by decide)) (fun i p q => by rw [show u 47 (16 + i) = tM (u 47) i from tM_at ⟨p, q⟩, hu2F]) (fun i p q => by have q : i < σ 47 5 := q; rw [hul (6 + i) (by omega)]; exact rs7 p q) (⟨hO9.1, hO9.2.1, hO9.2.2.1, hTT.1, hTT.2, hO9.2.2.2.2.2⟩)⟩)
                        · skip
                          exact absurd hb11 (by omega)
                    · skip
                      have m1 := mul9 (x := b) (y := k / 10) (by omega) (by omega)
                      have m2 := mul9 (x := d) (y := k % 10) (by omega) (by omega)
                      refine r_iload_n dX8_points_73 rfl rfl ?_
                      refine r_iload_n dX8_points_74 rfl rfl ?_
                      refine r_iload dX8_points_75 rfl ?_
                      refine r_bipush dX8_points_77 rfl ?_
                      refine r_idiv dX8_points_79 (by omega) ?_
                      refine r_imul dX8_points_80 ?_
                      refine r_iadd dX8_points_81 ?_
                      refine r_iload_n dX8_points_82 rfl rfl ?_
                      refine r_isub dX8_points_83 ?_
                      refine r_iload dX8_points_84 rfl ?_
                      refine r_iload dX8_points_86 rfl ?_
                      refine r_bipush dX8_points_88 rfl ?_
                      refine r_irem dX8_points_90 (by omega) ?_
                      refine r_imul dX8_points_91 ?_
                      refine r_isub dX8_points_92 ?_
                      refine r_istore (lv' := [(0, Rf G 46), (1, I a), (2, I b), (3, I c), (4, I d), (5, I k), (6, I (((a + (b * (k / 10))) - c) - (d * (k % 10))))]) dX8_points_93 (Nat.le_of_ble_eq_true rfl) rfl ?_
                      obtain ⟨e, he⟩ : ∃ z, z = ((a + (b * (k / 10))) - c) - (d * (k % 10)) := ⟨_, rfl⟩
                      rw [← he]
                      have heb : -131 ≤ e ∧ e ≤ 131 := by omega
                      have hsq := sq131 heb
                      have hfe : far a b c d k = e := by unfold far; omega
                      refine r_iload dX8_points_95 rfl ?_
                      refine r_bipush dX8_points_97 rfl ?_
                      refine r_irem dX8_points_99 (by omega) ?_
                      refine r_aload_n dX8_points_100 rfl rfl ?_
                      refine r_getR (b := 47) dX8_points_101 sh46 rfl (ci := 8) (j := 0) rfl (Nat.le_of_ble_eq_true rfl) ixX8 q642 rfl ?_
                      refine r_iconst dX8_points_104 ?_
                      refine r_iald dX8_points_105 sh47 (by omega) (hv := (hul 1 (by decide))) ?_
                      refine r_icmp_ge (tgt := 145) dX8_points_106 (by decide) (by omega) (fun hb12 => ?_) (fun hb12 => ?_)
                      · skip
                        refine r_iinc (lv' := [(0, Rf G 46), (1, I a), (2, I b), (3, I c), (4, I d), (5, I (k + 1)), (6, I e)]) dX8_points_145 (Nat.le_of_ble_eq_true rfl) rfl rfl ?_
                        refine r_goto (tgt := 59) dX8_points_148 (by decide) ?_
                        refine r_sub [0, 1, 2, 3, 4, 5] rfl ?_
                        exact ih59 _ (by omega) (k + 1) _ rfl (by omega) (by first | exact hu | (intro o ho; rw [up_ne ho]; exact hu o ho)) (by first | exact hul | (intro j hj; rw [up_nj (by omega)]; exact hul j hj)) (by first | (rw [ptL_n (by omega)]; exact hu2) | (rw [fu_up, show 10 * (k / 10) + k % 10 = k by omega, tM_fu (by omega), hu2, ptL_s (by omega) (by omega) (by rw [hfe]; unfold mn; split <;> omega)]))
                      · skip
                        refine r_aload_n dX8_points_109 rfl rfl ?_
                        refine r_iload dX8_points_110 rfl ?_
                        refine r_bipush dX8_points_112 rfl ?_
                        refine r_idiv dX8_points_114 (by omega) ?_
                        refine r_iload dX8_points_115 rfl ?_
                        refine r_bipush dX8_points_117 rfl ?_
                        refine r_irem dX8_points_119 (by omega) ?_
                        refine r_iload dX8_points_120 rfl ?_
                        refine r_iload dX8_points_122 rfl ?_
                        refine r_imul dX8_points_124 ?_
                        refine r_sipush dX8_points_125 rfl ?_
                        refine r_icmp_ge (tgt := 139) dX8_points_128 (by decide) (by omega) (fun hb13 => ?_) (fun hb13 => ?_)
                        · skip
                          refine r_sipush dX8_points_139 rfl ?_
                          refine r_callV (tX8_becomes G u (k / 10) (k % 10) 9999 (by omega)) dX8_points_142 svX8_becomes q696 sh46 (ci := 8) rfl rfl rfl ⟨Nat.le_of_ble_eq_true rfl, Nat.le_of_ble_eq_true rfl⟩ (Nat.le_of_ble_eq_true rfl) ⟨Nat.le_of_ble_eq_true rfl, Nat.le_of_ble_eq_true rfl⟩ ?_
                          rintro _ _ ⟨rfl, rfl⟩
                          refine r_iinc (lv' := [(0, Rf G 46), (1, I a), (2, I b), (3, I c), (4, I d), (5, I (k + 1)), (6, I e)]) dX8_points_145 (Nat.le_of_ble_eq_true rfl) rfl rfl ?_
                          refine r_goto (tgt := 59) dX8_points_148 (by decide) ?_
                          refine r_sub [0, 1, 2, 3, 4, 5] rfl ?_
                          exact ih59 _ (by omega) (k + 1) _ rfl (by omega) (by first | exact hu | (intro o ho; rw [up_ne ho]; exact hu o ho)) (by first | exact hul | (intro j hj; rw [up_nj (by omega)]; exact hul j hj)) (by first | (rw [ptL_n (by omega)]; exact hu2) | (rw [fu_up, show 10 * (k / 10) + k % 10 = k by omega, tM_fu (by omega), hu2, ptL_s (by omega) (by omega) (by rw [hfe]; unfold mn; split <;> omega)]))
                        · skip
                          refine r_iload dX8_points_131 rfl ?_
                          refine r_iload dX8_points_133 rfl ?_
                          refine r_imul dX8_points_135 ?_
                          refine r_goto (tgt := 142) dX8_points_136 (by decide) ?_
                          refine r_callV (tX8_becomes G u (k / 10) (k % 10) (e * e) (by omega)) dX8_points_142 svX8_becomes q696 sh46 (ci := 8) rfl rfl rfl ⟨Nat.le_of_ble_eq_true rfl, Nat.le_of_ble_eq_true rfl⟩ (Nat.le_of_ble_eq_true rfl) ⟨Nat.le_of_ble_eq_true rfl, Nat.le_of_ble_eq_true rfl⟩ ?_
                          rintro _ _ ⟨rfl, rfl⟩
                          refine r_iinc (lv' := [(0, Rf G 46), (1, I a), (2, I b), (3, I c), (4, I d), (5, I (k + 1)), (6, I e)]) dX8_points_145 (Nat.le_of_ble_eq_true rfl) rfl rfl ?_
                          refine r_goto (tgt := 59) dX8_points_148 (by decide) ?_
                          refine r_sub [0, 1, 2, 3, 4, 5] rfl ?_
                          exact ih59 _ (by omega) (k + 1) _ rfl (by omega) (by first | exact hu | (intro o ho; rw [up_ne ho]; exact hu o ho)) (by first | exact hul | (intro j hj; rw [up_nj (by omega)]; exact hul j hj)) (by first | (rw [ptL_n (by omega)]; exact hu2) | (rw [fu_up, show 10 * (k / 10) + k % 10 = k by omega, tM_fu (by omega), hu2, ptL_s (by omega) (by omega) (by rw [hfe]; unfold mn; split <;> omega)]))
                  exact L59 _ 0 _ rfl (by omega) (fun _ _ => rfl) (fun j h => by rw [e47]) (by rw [e47]; exact ptL_0)
                · skip
                  exact absurd hb8 (by omega)
              · skip
                refine r_if_ne (tgt := 52) dX8_points_43 (by decide) (by omega) (fun hb14 => ?_) (fun hb14 => ?_)
                · skip
                  exact absurd hb14 (by omega)
                · skip
                  refine r_aload_n dX8_points_46 rfl rfl ?_
                  refine r_iconst dX8_points_47 ?_
                  refine r_callV (tX8_refuses G (up σ 46 7 0) 1) dX8_points_48 svX8_refuses q674 sh46 (ci := 8) rfl rfl rfl ⟨Nat.le_of_ble_eq_true rfl, Nat.le_of_ble_eq_true rfl⟩ (Nat.le_of_ble_eq_true rfl) ⟨Nat.le_of_ble_eq_true rfl, Nat.le_of_ble_eq_true rfl⟩ ?_
                  rintro _ _ ⟨rfl, rfl⟩
                  exact r_iret dX8_points_51 rfl (by rw [hP]; exact by rw [oPoints_m]; first | (rw [if_neg (by omega)]; exact ⟨rfl, up_eq, ((((Qm.refl σ).tr (Qm.u7 (σ := σ) (j := 7) (v := 0) (by decide))).tr (Qm.u7 (σ := (up σ 46 7 0)) (j := 7) (v := 1) (by decide)))).done hmi⟩) | (rw [if_pos (by omega), if_neg (by omega)]; exact ⟨rfl, up_eq, ((((Qm.refl σ).tr (Qm.u7 (σ := σ) (j := 7) (v := 0) (by decide))).tr (Qm.u7 (σ := (up σ 46 7 0)) (j := 7) (v := 1) (by decide)))).done hmi⟩) | (rw [if_pos (by omega), if_pos (by omega)]; exact ⟨rfl, up_eq, ((((Qm.refl σ).tr (Qm.u7 (σ := σ) (j := 7) (v := 0) (by decide))).tr (Qm.u7 (σ := (up σ 46 7 0)) (j := 7) (v := 1) (by decide)))).done hmi⟩))
          · skip
            refine r_if_eq (tgt := 46) dX8_points_32 (by decide) (by omega) (fun hb15 => ?_) (fun hb15 => ?_)
            · skip
              refine r_aload_n dX8_points_46 rfl rfl ?_
              refine r_iconst dX8_points_47 ?_
              refine r_callV (tX8_refuses G (up σ 46 7 0) 1) dX8_points_48 svX8_refuses q674 sh46 (ci := 8) rfl rfl rfl ⟨Nat.le_of_ble_eq_true rfl, Nat.le_of_ble_eq_true rfl⟩ (Nat.le_of_ble_eq_true rfl) ⟨Nat.le_of_ble_eq_true rfl, Nat.le_of_ble_eq_true rfl⟩ ?_
              rintro _ _ ⟨rfl, rfl⟩
              exact r_iret dX8_points_51 rfl (by rw [hP]; exact by rw [oPoints_m]; first | (rw [if_neg (by omega)]; exact ⟨rfl, up_eq, ((((Qm.refl σ).tr (Qm.u7 (σ := σ) (j := 7) (v := 0) (by decide))).tr (Qm.u7 (σ := (up σ 46 7 0)) (j := 7) (v := 1) (by decide)))).done hmi⟩) | (rw [if_pos (by omega), if_neg (by omega)]; exact ⟨rfl, up_eq, ((((Qm.refl σ).tr (Qm.u7 (σ := σ) (j := 7) (v := 0) (by decide))).tr (Qm.u7 (σ := (up σ 46 7 0)) (j := 7) (v := 1) (by decide)))).done hmi⟩) | (rw [if_pos (by omega), if_pos (by omega)]; exact ⟨rfl, up_eq, ((((Qm.refl σ).tr (Qm.u7 (σ := σ) (j := 7) (v := 0) (by decide))).tr (Qm.u7 (σ := (up σ 46 7 0)) (j := 7) (v := 1) (by decide)))).done hmi⟩))
            · skip
              exact absurd hb15 (by omega)
      · skip
        refine r_if_eq (tgt := 46) dX8_points_22 (by decide) (by omega) (fun hb16 => ?_) (fun hb16 => ?_)
        · skip
          refine r_aload_n dX8_points_46 rfl rfl ?_
          refine r_iconst dX8_points_47 ?_
          refine r_callV (tX8_refuses G (up σ 46 7 0) 1) dX8_points_48 svX8_refuses q674 sh46 (ci := 8) rfl rfl rfl ⟨Nat.le_of_ble_eq_true rfl, Nat.le_of_ble_eq_true rfl⟩ (Nat.le_of_ble_eq_true rfl) ⟨Nat.le_of_ble_eq_true rfl, Nat.le_of_ble_eq_true rfl⟩ ?_
          rintro _ _ ⟨rfl, rfl⟩
          exact r_iret dX8_points_51 rfl (by rw [hP]; exact by rw [oPoints_m]; first | (rw [if_neg (by omega)]; exact ⟨rfl, up_eq, ((((Qm.refl σ).tr (Qm.u7 (σ := σ) (j := 7) (v := 0) (by decide))).tr (Qm.u7 (σ := (up σ 46 7 0)) (j := 7) (v := 1) (by decide)))).done hmi⟩) | (rw [if_pos (by omega), if_neg (by omega)]; exact ⟨rfl, up_eq, ((((Qm.refl σ).tr (Qm.u7 (σ := σ) (j := 7) (v := 0) (by decide))).tr (Qm.u7 (σ := (up σ 46 7 0)) (j := 7) (v := 1) (by decide)))).done hmi⟩) | (rw [if_pos (by omega), if_pos (by omega)]; exact ⟨rfl, up_eq, ((((Qm.refl σ).tr (Qm.u7 (σ := σ) (j := 7) (v := 0) (by decide))).tr (Qm.u7 (σ := (up σ 46 7 0)) (j := 7) (v := 1) (by decide)))).done hmi⟩))
        · skip
          exact absurd hb16 (by omega)
  · skip
    refine r_if_eq (tgt := 46) dX8_points_12 (by decide) (by omega) (fun hb17 => ?_) (fun hb17 => ?_)
    · skip
      refine r_aload_n dX8_points_46 rfl rfl ?_
      refine r_iconst dX8_points_47 ?_
      refine r_callV (tX8_refuses G (up σ 46 7 0) 1) dX8_points_48 svX8_refuses q674 sh46 (ci := 8) rfl rfl rfl ⟨Nat.le_of_ble_eq_true rfl, Nat.le_of_ble_eq_true rfl⟩ (Nat.le_of_ble_eq_true rfl) ⟨Nat.le_of_ble_eq_true rfl, Nat.le_of_ble_eq_true rfl⟩ ?_
      rintro _ _ ⟨rfl, rfl⟩
      exact r_iret dX8_points_51 rfl (by rw [hP]; exact by rw [oPoints_m]; first | (rw [if_neg (by omega)]; exact ⟨rfl, up_eq, ((((Qm.refl σ).tr (Qm.u7 (σ := σ) (j := 7) (v := 0) (by decide))).tr (Qm.u7 (σ := (up σ 46 7 0)) (j := 7) (v := 1) (by decide)))).done hmi⟩) | (rw [if_pos (by omega), if_neg (by omega)]; exact ⟨rfl, up_eq, ((((Qm.refl σ).tr (Qm.u7 (σ := σ) (j := 7) (v := 0) (by decide))).tr (Qm.u7 (σ := (up σ 46 7 0)) (j := 7) (v := 1) (by decide)))).done hmi⟩) | (rw [if_pos (by omega), if_pos (by omega)]; exact ⟨rfl, up_eq, ((((Qm.refl σ).tr (Qm.u7 (σ := σ) (j := 7) (v := 0) (by decide))).tr (Qm.u7 (σ := (up σ 46 7 0)) (j := 7) (v := 1) (by decide)))).done hmi⟩))
    · skip
      exact absurd hb17 (by omega)
