
def x0 : St := (4, 4, 1, 0, 0, 0, (fun _ => 0), (fun j => if j = 0 then 1 else 0))
theorem x0_ok : OkS x0 := by
  refine ⟨by decide, by decide, by decide, fun i => by show (0 : Int) ≤ 0 ∧ (0 : Int) ≤ 9999; omega, fun _ _ => rfl, fun i h1 h2 => ?_, fun i h => ?_⟩
  · have h2 : i < 1 := h2
    have h3 : i = 0 := by omega
    subst h3
    show (1 : Int) ≤ 1 ∧ (1 : Int) ≤ 99
    omega
  · have h : i < 0 ∨ 1 ≤ i := h
    show (if i = 0 then (1 : Int) else 0) = 0
    rw [if_neg (by omega)]
theorem A0_ok : OkA (x0, [], none, none, []) := by
  refine ⟨x0_ok, fun x h => ?_, fun x h => ?_, fun x h => ?_, by decide, by decide, fun c h => ?_⟩ <;> cases h
theorem made_c {s : Sg} (h : InC s) : CI s ∧ absC s = (x0, [], none, none, []) := by
  obtain ⟨-, ⟨a0, a1, a2, a3, a4, a5⟩, ⟨b1, b2⟩, b3, b4, b5, b6, b7, ⟨b8, b9⟩, c1, c2⟩ := h
  have hst : stC s 1 = x0 := by
    unfold stC x0
    rw [a0, a1, a2, a3, a4, a5]
    have h1 : rs 100 (s (1 + 1)) = fun _ => 0 := by
      funext i
      unfold rs
      rw [show s (1 + 1) = fun _ => 0 from b3]
      split <;> rfl
    have h2 : rs 1 (s (1 + 2)) = fun j => if j = 0 then 1 else 0 := by
      funext i
      unfold rs
      rw [show s (1 + 2) = s 3 from rfl]
      by_cases hi : i = 0
      · subst hi
        rw [if_pos (by omega), if_pos rfl, b1]
      · rw [if_neg (by omega), if_neg hi]
    rw [h1, h2]
  have hh : hiC s = [] := by unfold hiC; rw [b8]; rfl
  have h38 : slC s 38 39 = none := by unfold slC; rw [c1]; rfl
  have h42 : slC s 42 43 = none := by unfold slC; rw [c2]; rfl
  have hb : bfC (s 16) (s 15 0) = [] := by rw [b7]; rfl
  have hx : absC s = (x0, [], none, none, []) := by unfold absC; rw [hst, hh, h38, h42, hb]
  refine ⟨⟨⟨fun x => by rw [b4]; show (-1 : Int) ≤ 0 ∧ (0 : Int) ≤ 9; omega, fun j _ _ => by rw [b5], by rw [b6]⟩, ⟨by omega, by omega, by omega, by omega⟩, ⟨by omega, by omega⟩, ⟨Or.inl c1, Or.inl c2⟩, fun i _ => by rw [b3], ?_⟩, hx⟩
  rw [hx]
  exact A0_ok
theorem made_m {s t : Sg} (hz : ∀ q, 46 ≤ q → s q = fun _ => 0) (h : InM s t) : IM t ∧ absM t = (x0, [], none, none, []) := by
  obtain ⟨a1, a2, b1, b2, b3, b4, b5⟩ := h
  have z : ∀ q, 48 ≤ q → t q = fun _ => 0 := fun q hq => (a1 q (by omega) (by omega)).trans (hz q (by omega))
  have hst : st0 (t 47) = x0 := by
    unfold st0 x0
    rw [b1, b2, b3, b5 2 (by decide) (by decide) (by decide) (by decide), b5 3 (by decide) (by decide) (by decide) (by decide), b5 4 (by decide) (by decide) (by decide) (by decide)]
    have h1 : tM (t 47) = fun _ => 0 := by
      funext i
      unfold tM
      by_cases hi : 0 ≤ i ∧ i < 100
      · rw [if_pos hi, b5 _ (by omega) (by omega) (by omega) (by omega)]
      · rw [if_neg hi]
    have h2 : rs 1 (fun i => t 47 (6 + i)) = fun j => if j = 0 then 1 else 0 := by
      funext i
      unfold rs
      by_cases hi : i = 0
      · subst hi
        rw [if_pos (by omega), if_pos rfl]
        exact b4
      · rw [if_neg (by omega), if_neg hi]
    rw [h1, h2]
  have hh : hiM t = [] := by unfold hiM; rw [a2 2]; rfl
  have h0 : slM t 0 = none := by unfold slM; rw [z 50 (by decide)]; rfl
  have h1 : slM t 1 = none := by unfold slM; rw [z 50 (by decide)]; rfl
  have hb : bfC (t 51) (t 46 6) = [] := by rw [a2 6]; rfl
  have hx : absM t = (x0, [], none, none, []) := by unfold absM; rw [hst, hh, h0, h1, hb]
  refine ⟨⟨fun x => by rw [z 52 (by decide)]; show (-1 : Int) ≤ 0 ∧ (0 : Int) ≤ 9; omega, ⟨by rw [a2 2]; omega, by rw [a2 2]; omega⟩, ⟨by rw [a2 6]; omega, by rw [a2 6]; omega⟩, ⟨Or.inl (by rw [z 50 (by decide)]), Or.inl (by rw [z 50 (by decide)])⟩, ?_⟩, hx⟩
  rw [hx]
  exact A0_ok
theorem made_ok {s t : Sg} (h1 : InC s) (h2 : InM s t) : LI t := by
  have hm := made_m h1.1 h2
  have hc := made_c h1
  have hk := ci_c (τ := t) (fun a h => h2.1 a (by omega) (by omega)) hc.1
  exact ⟨hk.1, hm.1, by rw [hk.2, hc.2, hm.2]⟩

set_option maxHeartbeats 1000000 in
set_option maxRecDepth 100000 in
theorem law_step {G : GT} {b L : Nat} {xs : Nat → Int32} {k n : Nat} {i : Int} {σ : Sg} (hL : (L : Int) ≤ 2560) (h0 : 0 ≤ i ∧ i ≤ (L : Int)) (hi : LI σ) (hk : k ≤ 2000) (hn : n ≤ 20000)
    (ih : i + 5 ≤ (L : Int) → ∀ σ' : Sg, LI σ' → Rn G mL_law room_1 (EL G b L xs) ZL false SH (k + 1) (n + 6) 23 [(0, .ref b), (1, Rf G 0), (2, Rf G 46), (3, Rf G 59), (4, I (i + 5))] [] σ') : Rn G mL_law room_1 (EL G b L xs) ZL false SH k n 23 [(0, .ref b), (1, Rf G 0), (2, Rf G 46), (3, Rf G 59), (4, I i)] [] σ := by
  refine r_iload dL_law_23 rfl ?_
  refine r_aloadb_n dL_law_25 rfl rfl ?_
  refine r_slen dL_law_26 ?_
  refine r_iconst dL_law_27 ?_
  refine r_isub dL_law_28 ?_
  refine r_icmp_gt (tgt := 1473) dL_law_29 (by decide) (by omega) (fun hg => ?_) (fun hg => ?_)
  · refine r_iconst dL_law_1473 ?_
    exact r_lawend dL_law_1474 (by omega) (by omega)
  · have hg2 : i + 5 ≤ (L : Int) := by omega
    have hend : ∀ σ' : Sg, LI σ' → Rn G mL_law room_1 (EL G b L xs) ZL false SH (k + 1) (n + 6) 1467 [(0, .ref b), (1, Rf G 0), (2, Rf G 46), (3, Rf G 59), (4, I i)] [] σ' := by
      intro σ' h'
      refine r_iinc (z := 5) dL_law_1467 (Nat.le_of_ble_eq_true rfl) rfl rfl ?_
      refine r_goto (tgt := 23) dL_law_1470 (by decide) ?_
      exact ih hg2 σ' h'
    have hL5 : 0 ≤ i ∧ i + 5 ≤ (L : Int) ∧ (L : Int) ≤ 2560 := ⟨h0.1, hg2, hL⟩
    refine r_aloadb_n dL_law_32 rfl rfl ?_
    refine r_iload dL_law_33 rfl ?_
    refine r_sld dL_law_35 (by omega) ?_
    refine r_bipush dL_law_36 rfl ?_
    refine r_and31 dL_law_38 (fun z hz => ?_)
    by_cases hz26 : 26 ≤ z
    · refine r_tableOut (tgt := 1467) dL_law_39 (by omega) (by decide) ?_
      refine r_widen (k2 := k + 1) (n2 := n + 6) (by omega) (by omega) ?_
      exact hend σ hi
    rcases (show z = 0 ∨ z = 1 ∨ z = 2 ∨ z = 3 ∨ z = 4 ∨ z = 5 ∨ z = 6 ∨ z = 7 ∨ z = 8 ∨ z = 9 ∨ z = 10 ∨ z = 11 ∨ z = 12 ∨ z = 13 ∨ z = 14 ∨ z = 15 ∨ z = 16 ∨ z = 17 ∨ z = 18 ∨ z = 19 ∨ z = 20 ∨ z = 21 ∨ z = 22 ∨ z = 23 ∨ z = 24 ∨ z = 25 by omega) with rfl | rfl | rfl | rfl | rfl | rfl | rfl | rfl | rfl | rfl | rfl | rfl | rfl | rfl | rfl | rfl | rfl | rfl | rfl | rfl | rfl | rfl | rfl | rfl | rfl | rfl
    · refine r_tableIn (off := 117) (tgt := 156) dL_law_39 (by decide) rfl (by decide) ?_
      exact law_0 hL5 hi hk hn hend
    · refine r_tableIn (off := 185) (tgt := 224) dL_law_39 (by decide) rfl (by decide) ?_
      exact law_1 hL5 hi hk hn hend
    · refine r_tableIn (off := 265) (tgt := 304) dL_law_39 (by decide) rfl (by decide) ?_
      exact law_2 hL5 hi hk hn hend
    · refine r_tableIn (off := 357) (tgt := 396) dL_law_39 (by decide) rfl (by decide) ?_
      exact law_3 hL5 hi hk hn hend
    · refine r_tableIn (off := 370) (tgt := 409) dL_law_39 (by decide) rfl (by decide) ?_
      exact law_4 hL5 hi hk hn hend
    · refine r_tableIn (off := 426) (tgt := 465) dL_law_39 (by decide) rfl (by decide) ?_
      exact law_5 hL5 hi hk hn hend
    · refine r_tableIn (off := 482) (tgt := 521) dL_law_39 (by decide) rfl (by decide) ?_
      exact law_6 hL5 hi hk hn hend
    · refine r_tableIn (off := 526) (tgt := 565) dL_law_39 (by decide) rfl (by decide) ?_
      exact law_7 hL5 hi hk hn hend
    · refine r_tableIn (off := 582) (tgt := 621) dL_law_39 (by decide) rfl (by decide) ?_
      exact law_8 hL5 hi hk hn hend
    · refine r_tableIn (off := 595) (tgt := 634) dL_law_39 (by decide) rfl (by decide) ?_
      exact law_9 hL5 hi hk hn hend
    · refine r_tableIn (off := 608) (tgt := 647) dL_law_39 (by decide) rfl (by decide) ?_
      exact law_10 hL5 hi hk hn hend
    · refine r_tableIn (off := 652) (tgt := 691) dL_law_39 (by decide) rfl (by decide) ?_
      exact law_11 hL5 hi hk hn hend
    · refine r_tableIn (off := 708) (tgt := 747) dL_law_39 (by decide) rfl (by decide) ?_
      exact law_12 hL5 hi hk hn hend
    · refine r_tableIn (off := 764) (tgt := 803) dL_law_39 (by decide) rfl (by decide) ?_
      exact law_13 hL5 hi hk hn hend
    · refine r_tableIn (off := 808) (tgt := 847) dL_law_39 (by decide) rfl (by decide) ?_
      exact law_14 hL5 hi hk hn hend
    · refine r_tableIn (off := 876) (tgt := 915) dL_law_39 (by decide) rfl (by decide) ?_
      exact law_15 hL5 hi hk hn hend
    · refine r_tableIn (off := 944) (tgt := 983) dL_law_39 (by decide) rfl (by decide) ?_
      exact law_16 hL5 hi hk hn hend
    · refine r_tableIn (off := 1000) (tgt := 1039) dL_law_39 (by decide) rfl (by decide) ?_
      exact law_17 hL5 hi hk hn hend
    · refine r_tableIn (off := 1013) (tgt := 1052) dL_law_39 (by decide) rfl (by decide) ?_
      exact law_18 hL5 hi hk hn hend
    · refine r_tableIn (off := 1069) (tgt := 1108) dL_law_39 (by decide) rfl (by decide) ?_
      exact law_19 hL5 hi hk hn hend
    · refine r_tableIn (off := 1125) (tgt := 1164) dL_law_39 (by decide) rfl (by decide) ?_
      exact law_20 hL5 hi hk hn hend
    · refine r_tableIn (off := 1181) (tgt := 1220) dL_law_39 (by decide) rfl (by decide) ?_
      exact law_21 hL5 hi hk hn hend
    · refine r_tableIn (off := 1249) (tgt := 1288) dL_law_39 (by decide) rfl (by decide) ?_
      exact law_22 hL5 hi hk hn hend
    · refine r_tableIn (off := 1317) (tgt := 1356) dL_law_39 (by decide) rfl (by decide) ?_
      exact law_23 hL5 hi hk hn hend
    · refine r_tableIn (off := 1373) (tgt := 1412) dL_law_39 (by decide) rfl (by decide) ?_
      exact law_24 hL5 hi hk hn hend
    · refine r_tableIn (off := 1414) (tgt := 1453) dL_law_39 (by decide) rfl (by decide) ?_
      exact law_25 hL5 hi hk hn hend
theorem law_loop {G : GT} {b L : Nat} {xs : Nat → Int32} (hL : (L : Int) ≤ 2560) : ∀ (fu : Nat) {k n : Nat} {i : Int} {σ : Sg}, 0 ≤ i → i ≤ (L : Int) → (L : Int) - i ≤ (fu : Int) → LI σ → 5 * (k : Int) ≤ 300 + i → 5 * (n : Int) ≤ 16015 + 6 * i → Rn G mL_law room_1 (EL G b L xs) ZL false SH k n 23 [(0, .ref b), (1, Rf G 0), (2, Rf G 46), (3, Rf G 59), (4, I i)] [] σ := by
  intro fu
  induction fu with
  | zero =>
    intro k n i σ h0 h1 hf hi hk hn
    exact law_step hL ⟨h0, h1⟩ hi (by omega) (by omega) (fun h => absurd h (by omega))
  | succ fu ih =>
    intro k n i σ h0 h1 hf hi hk hn
    exact law_step hL ⟨h0, h1⟩ hi (by omega) (by omega) (fun h σ' h' => ih (by omega) h (by omega) h' (by omega) (by omega))
set_option maxHeartbeats 1000000 in
set_option maxRecDepth 100000 in
theorem law_start {G : GT} {b L : Nat} {xs : Nat → Int32} (hL : (L : Int) ≤ 2560) : Rn G mL_law room_1 (EL G b L xs) ZL true [] 0 0 0 [(0, .ref b)] [] (fun _ _ => 0) := by
  have hE : ∀ (l : Launch) (s : State) (args : Array Value) (c : Code), EL G b L xs l s args c → va_AO RX5 s := fun _ _ _ _ h => h.2.2.2.2.2.2
  refine r_new (ci := 7) (N := 8) (sh2 := ms0) tyX7 dL_law_0 q18 q19 q1 rfl tyX7_ok ixX7 (a := 0) rfl rfl rfl hfs7 (Nat.le_of_ble_eq_true rfl) (Nat.le_of_ble_eq_true rfl) ?_
  refine r_dup dL_law_3 rfl ?_
  refine r_callA hE (tX7_init_0 G _ (fun q _ => rfl)) dL_law_4 svX7_init q20 rfl ⟨Nat.le_of_ble_eq_true rfl, Nat.le_of_ble_eq_true rfl⟩ (Nat.le_of_ble_eq_true rfl) ⟨Nat.le_of_ble_eq_true rfl, Nat.le_of_ble_eq_true rfl⟩ ?_
  rintro _ s7 ⟨rfl, h7⟩
  refine r_astore_n (lv' := [(0, .ref b), (1, Rf G 0)]) dL_law_7 rfl (Nat.le_of_ble_eq_true rfl) rfl ?_
  refine r_new (ci := 8) (N := 21) (sh2 := ms111) tyX8 dL_law_8 q636 q637 q9 rfl tyX8_ok ixX8 (a := 46) rfl rfl (h7.1 46 (by decide)) hfs8 (Nat.le_of_ble_eq_true rfl) (Nat.le_of_ble_eq_true rfl) ?_
  refine r_dup dL_law_11 rfl ?_
  refine r_callI (tX8_init_46 G s7 h7.1) dL_law_12 svX8_init q638 rfl ⟨Nat.le_of_ble_eq_true rfl, Nat.le_of_ble_eq_true rfl⟩ (Nat.le_of_ble_eq_true rfl) ⟨Nat.le_of_ble_eq_true rfl, Nat.le_of_ble_eq_true rfl⟩ ?_
  rintro _ s8 ⟨rfl, h8⟩
  refine r_astore_n (lv' := [(0, .ref b), (1, Rf G 0), (2, Rf G 46)]) dL_law_15 rfl (Nat.le_of_ble_eq_true rfl) rfl ?_
  refine r_iconst dL_law_16 ?_
  refine r_newl (N := 1) (sh2 := SH) dL_law_17 rfl (Nat.le_of_ble_eq_true rfl) (a := 59) rfl rfl ((h8.1 59 (by decide) (by decide)).trans (h7.1 59 (by decide))) (Nat.le_of_ble_eq_true rfl) (Nat.le_of_ble_eq_true rfl) ?_
  refine r_astore_n (lv' := [(0, .ref b), (1, Rf G 0), (2, Rf G 46), (3, Rf G 59)]) dL_law_19 rfl (Nat.le_of_ble_eq_true rfl) rfl ?_
  refine r_iconst dL_law_20 ?_
  refine r_istore (lv' := [(0, .ref b), (1, Rf G 0), (2, Rf G 46), (3, Rf G 59), (4, I 0)]) dL_law_21 (Nat.le_of_ble_eq_true rfl) rfl ?_
  refine r_loose ?_
  refine r_widen (k2 := 60) (n2 := 3203) (Nat.le_of_ble_eq_true rfl) (Nat.le_of_ble_eq_true rfl) ?_
  exact law_loop hL L (Int.le_refl 0) (by omega) (by omega) (made_ok h7 h8) (by decide) (by decide)
