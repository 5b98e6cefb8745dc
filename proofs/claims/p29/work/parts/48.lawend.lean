variable {Ω : List Ob}
set_option maxHeartbeats 1000000 in
set_option maxRecDepth 100000 in
theorem law_fin {G : GT} {b L : Nat} {xs : Nat → Int32} {k nn : Nat} {s : Sg} {y : St} {acts jj : Int} (hD : Done s s (y, [], al_5.2.2)) (hk : k + 350 ≤ 600000) (hnn : nn + 2100 ≤ 7000000) : Rn G mL_law room_1 (EL G b L xs) ZL false SH1 (k) (nn) 572 [(0, .ref b), (1, Rf G 0), (2, Rf G 46), (3, I acts), (4, Lg (seenF al_5.1)), (6, I jj)] [] s := by
  refine r_aload_n dL_law_572 rfl rfl ?_
  refine r_bipush dL_law_573 rfl ?_
  refine r_iconst dL_law_575 ?_
  refine r_iconst dL_law_576 ?_
  refine r_iconst dL_law_577 ?_
  refine r_iconst dL_law_578 ?_
  refine r_kC hD EL_ok (tL_call10 G _ 0 0 0 0 hD.1 hD.2.1) (z := (-13)) (cv1 (A := (y, [], al_5.2.2)) (v := 0) rfl) (rfl) dL_law_579 q378 q0 q379 pd_call q377 rfl ⟨Nat.le_of_ble_eq_true rfl, Nat.le_of_ble_eq_true rfl⟩ (Nat.le_of_ble_eq_true rfl) ⟨by show _ ≤ 600104; omega, by show _ ≤ 7301314; omega⟩ (fun s1 hD1 => ?_)
  refine r_bipush dL_law_582 rfl ?_
  refine r_icmp_neE (tgt := 620) dL_law_584 (by decide) (rfl) ?_
  refine r_aload_n dL_law_587 rfl rfl ?_
  refine r_iconst dL_law_588 ?_
  have hb9 : oBack (y, [], al_5.2.2) 1 = (0, 4, svA (y, [], al_5.2.2) al_5.1) := by
    show bkA _ al_5.2.2.2.1 = _
    rw [al_slot]
    show (0, al_5.1.1, _) = _
    rw [al_rows]
  refine r_kX hD1 EL_ok (uX_goBack G _ 1 hD1.1 hD1.2.1 (by decide)) (hb9) dL_law_589 svX7_goBack q336 sh0 (ci := 7) rfl rfl rfl ⟨Nat.le_of_ble_eq_true rfl, Nat.le_of_ble_eq_true rfl⟩ (Nat.le_of_ble_eq_true rfl) ⟨by show _ ≤ 600104; omega, by show _ ≤ 7301314; omega⟩ (fun s2 hD2 => ?_)
  refine r_iconst dL_law_592 ?_
  refine r_icmp_neE (tgt := 620) dL_law_593 (by decide) (rfl) ?_
  refine r_aload_n dL_law_596 rfl rfl ?_
  refine r_kY hD2 EL_ok (tL_seen G _ hD2.1 hD2.2.1) dL_law_597 svL_seen q529 rfl ⟨Nat.le_of_ble_eq_true rfl, Nat.le_of_ble_eq_true rfl⟩ (Nat.le_of_ble_eq_true rfl) ⟨by show _ ≤ 600104; omega, by show _ ≤ 7301314; omega⟩ (fun s3 hD3 => ?_)
  refine r_lload dL_law_600 rfl ?_
  refine r_lcmpE dL_law_602 ?_
  refine r_if_ne (tgt := 620) dL_law_603 (by decide) (by omega) (fun hb4 => absurd hb4 (by omega)) (fun hb4 => ?_)
  refine r_aload_n dL_law_606 rfl rfl ?_
  refine r_bipush dL_law_607 rfl ?_
  refine r_kX hD3 EL_ok (uX_count G _ 8 hD3.1 hD3.2.1 (by decide)) (oCount_8n (n := 1) rfl) dL_law_609 svX7_count q349 sh0 (ci := 7) rfl rfl rfl ⟨Nat.le_of_ble_eq_true rfl, Nat.le_of_ble_eq_true rfl⟩ (Nat.le_of_ble_eq_true rfl) ⟨by show _ ≤ 600104; omega, by show _ ≤ 7301314; omega⟩ (fun s5 hD5 => ?_)
  refine r_iconst dL_law_612 ?_
  refine r_icmp_neE (tgt := 620) dL_law_613 (by decide) (rfl) ?_
  refine r_iconst dL_law_616 ?_
  refine r_goto (tgt := 621) dL_law_617 (by decide) ?_
  exact r_lawend dL_law_621 (by omega) (by omega)
set_option maxHeartbeats 1000000 in
set_option maxRecDepth 100000 in
theorem law_rest {G : GT} {b L : Nat} {xs : Nat → Int32} {acts : Int} : ∀ (r jj : Nat) (s : Sg) (y : St) (h : List St), h.length = r → r + jj ≤ 6 → Done s s (y, h, al_5.2.2) → Rn G mL_law room_1 (EL G b L xs) ZL false SH1 (29000 + 3 * jj) (181000 + 18 * jj) 541 [(0, .ref b), (1, Rf G 0), (2, Rf G 46), (3, I acts), (4, Lg (seenF al_5.1)), (6, I (jj : Int))] [] s := by
  intro r
  induction r with
  | zero =>
    intro jj s y h hl hj hD
    obtain rfl : h = [] := List.length_eq_zero_iff.mp hl
    refine r_iload dL_law_541 rfl ?_
    refine r_bipush dL_law_543 rfl ?_
    refine r_icmp_ge (tgt := 572) dL_law_545 (by decide) (by omega) (fun hb1 => ?_) (fun hb1 => ?_)
    · skip
      exact law_fin hD (by omega) (by omega)
    · skip
      refine r_aload_n dL_law_548 rfl rfl ?_
      refine r_bipush dL_law_549 rfl ?_
      refine r_kX hD EL_ok (uX_count G _ 8 hD.1 hD.2.1 (by decide)) (oCount_8n (n := 0) rfl) dL_law_551 svX7_count q349 sh0 (ci := 7) rfl rfl rfl ⟨Nat.le_of_ble_eq_true rfl, Nat.le_of_ble_eq_true rfl⟩ (Nat.le_of_ble_eq_true rfl) ⟨by show _ ≤ 600104; omega, by show _ ≤ 7301314; omega⟩ (fun s2 hD2 => ?_)
      refine r_if_le (tgt := 572) dL_law_554 (by decide) (by omega) (fun hb3 => ?_) (fun hb3 => absurd hb3 (by omega))
      exact law_fin (Done.rf hD2.1 hD2.2.1) (by omega) (by omega)
  | succ r ih =>
    intro jj s y h hl hj hD
    refine r_iload dL_law_541 rfl ?_
    refine r_bipush dL_law_543 rfl ?_
    refine r_icmp_ge (tgt := 572) dL_law_545 (by decide) (by omega) (fun hb1 => absurd hb1 (by omega)) (fun hb1 => ?_)
    refine r_aload_n dL_law_548 rfl rfl ?_
    refine r_bipush dL_law_549 rfl ?_
    refine r_kX hD EL_ok (uX_count G _ 8 hD.1 hD.2.1 (by decide)) (oCount_8n hl) dL_law_551 svX7_count q349 sh0 (ci := 7) rfl rfl rfl ⟨Nat.le_of_ble_eq_true rfl, Nat.le_of_ble_eq_true rfl⟩ (Nat.le_of_ble_eq_true rfl) ⟨by show _ ≤ 600104; omega, by show _ ≤ 7301314; omega⟩ (fun s2 hD2 => ?_)
    refine r_if_le (tgt := 572) dL_law_554 (by decide) (by omega) (fun hb3 => absurd hb3 (by omega)) (fun hb3 => ?_)
    refine r_aload_n dL_law_557 rfl rfl ?_
    refine r_kX hD2 EL_ok (uX_undo G _ hD2.1 hD2.2.1) (oUndo_y hl) dL_law_558 svX7_undo q341 sh0 (ci := 7) rfl rfl rfl ⟨Nat.le_of_ble_eq_true rfl, Nat.le_of_ble_eq_true rfl⟩ (Nat.le_of_ble_eq_true rfl) ⟨by show _ ≤ 600104; omega, by show _ ≤ 7301314; omega⟩ (fun s4 hD4 => ?_)
    refine r_if_ge (tgt := 566) dL_law_561 (by decide) (by omega) (fun hb5 => ?_) (fun hb5 => absurd hb5 (by omega))
    refine r_iinc (lv' := [(0, .ref b), (1, Rf G 0), (2, Rf G 46), (3, I acts), (4, Lg (seenF al_5.1)), (6, I ((jj : Int) + 1))]) dL_law_566 (Nat.le_of_ble_eq_true rfl) rfl rfl ?_
    refine r_goto (tgt := 541) dL_law_569 (by decide) ?_
    rw [show (jj : Int) + 1 = ((jj + 1 : Nat) : Int) from rfl]
    refine r_widen (k2 := 29000 + 3 * (jj + 1)) (n2 := 181000 + 18 * (jj + 1)) (by omega) (by omega) ?_
    exact ih (jj + 1) s4 _ _ (by rw [List.length_dropLast, show ((y, h, al_5.2.2) : Ab).2.1.length = r + 1 from hl]; rfl) (by omega) (Done.rf hD4.1 hD4.2.1)
set_option maxHeartbeats 1000000 in
set_option maxRecDepth 100000 in
theorem law_undo {G : GT} {b L : Nat} {xs : Nat → Int32} {u : Nat → St} {a acts : Nat} (hact : acts ≤ 28) : ∀ (r j : Nat) (s : Sg), a + r + j = 4 + acts → r + j ≤ 6 → j ≤ acts → Done s s (u (a + r), hs u a r, al_5.2.2) → (∀ m : Nat, m ≤ acts → s 46 (m : Int) = seenF (u (4 + m))) → Rn G mL_law room_1 (EL G b L xs) ZL false SH1 (26300 + 350 * j) (166000 + 2100 * j) 476 [(0, .ref b), (1, Rf G 0), (2, Rf G 46), (3, I (acts : Int)), (4, Lg (seenF al_5.1)), (6, I (j : Int))] [] s := by
  intro r
  induction r with
  | zero =>
    intro j s hN hj hja hD hw
    refine r_aload_n dL_law_476 rfl rfl ?_
    refine r_bipush dL_law_477 rfl ?_
    refine r_kX hD EL_ok (uX_count G _ 8 hD.1 hD.2.1 (by decide)) (oCount_8n (n := 0) rfl) dL_law_479 svX7_count q349 sh0 (ci := 7) rfl rfl rfl ⟨Nat.le_of_ble_eq_true rfl, Nat.le_of_ble_eq_true rfl⟩ (Nat.le_of_ble_eq_true rfl) ⟨by show _ ≤ 600104; omega, by show _ ≤ 7301314; omega⟩ (fun s1 hD1 => ?_)
    refine r_if_le (tgt := 538) dL_law_482 (by decide) (by omega) (fun hb2 => ?_) (fun hb2 => absurd hb2 (by omega))
    refine r_iconst dL_law_538 ?_
    refine r_istore (lv' := [(0, .ref b), (1, Rf G 0), (2, Rf G 46), (3, I (acts : Int)), (4, Lg (seenF al_5.1)), (6, I 0)]) dL_law_539 (Nat.le_of_ble_eq_true rfl) rfl ?_
    rw [show (0 : Int) = ((0 : Nat) : Int) from rfl]
    refine r_widen (k2 := 29000 + 3 * 0) (n2 := 181000 + 18 * 0) (by omega) (by omega) ?_
    exact law_rest _ 0 _ _ _ hs_len (by omega) (Done.rf hD1.1 hD1.2.1)
  | succ r ih =>
    intro j s hN hj hja hD hw
    refine r_aload_n dL_law_476 rfl rfl ?_
    refine r_bipush dL_law_477 rfl ?_
    refine r_kX hD EL_ok (uX_count G _ 8 hD.1 hD.2.1 (by decide)) (oCount_8n hs_len) dL_law_479 svX7_count q349 sh0 (ci := 7) rfl rfl rfl ⟨Nat.le_of_ble_eq_true rfl, Nat.le_of_ble_eq_true rfl⟩ (Nat.le_of_ble_eq_true rfl) ⟨by show _ ≤ 600104; omega, by show _ ≤ 7301314; omega⟩ (fun s1 hD1 => ?_)
    refine r_if_le (tgt := 538) dL_law_482 (by decide) (by omega) (fun hb2 => absurd hb2 (by omega)) (fun hb2 => ?_)
    refine r_iload dL_law_485 rfl ?_
    refine r_iload_n dL_law_487 rfl rfl ?_
    refine r_icmp_ge (tgt := 538) dL_law_488 (by decide) (by omega) (fun hb3 => ?_) (fun hb3 => ?_)
    · skip
      refine r_iconst dL_law_538 ?_
      refine r_istore (lv' := [(0, .ref b), (1, Rf G 0), (2, Rf G 46), (3, I (acts : Int)), (4, Lg (seenF al_5.1)), (6, I 0)]) dL_law_539 (Nat.le_of_ble_eq_true rfl) rfl ?_
      rw [show (0 : Int) = ((0 : Nat) : Int) from rfl]
      refine r_widen (k2 := 29000 + 3 * 0) (n2 := 181000 + 18 * 0) (by omega) (by omega) ?_
      exact law_rest _ 0 _ _ _ hs_len (by omega) (Done.rf hD1.1 hD1.2.1)
    · skip
      refine r_aload_n dL_law_491 rfl rfl ?_
      refine r_bipush dL_law_492 rfl ?_
      refine r_kX hD1 EL_ok (uX_count G _ 8 hD1.1 hD1.2.1 (by decide)) (oCount_8n hs_len) dL_law_494 svX7_count q349 sh0 (ci := 7) rfl rfl rfl ⟨Nat.le_of_ble_eq_true rfl, Nat.le_of_ble_eq_true rfl⟩ (Nat.le_of_ble_eq_true rfl) ⟨by show _ ≤ 600104; omega, by show _ ≤ 7301314; omega⟩ (fun s4 hD4 => ?_)
      refine r_istore (lv' := [(0, .ref b), (1, Rf G 0), (2, Rf G 46), (3, I (acts : Int)), (4, Lg (seenF al_5.1)), (6, I (j : Int)), (7, I ((r + 1 : Nat) : Int))]) dL_law_497 (Nat.le_of_ble_eq_true rfl) rfl ?_
      refine r_iload dL_law_499 rfl ?_
      refine r_iconst dL_law_501 ?_
      refine r_icmp_gt (tgt := 530) dL_law_502 (by decide) (by omega) (fun hb5 => absurd hb5 (by omega)) (fun hb5 => ?_)
      refine r_aload_n dL_law_505 rfl rfl ?_
      refine r_kY hD4 EL_ok (tL_seen G _ hD4.1 hD4.2.1) dL_law_506 svL_seen q529 rfl ⟨Nat.le_of_ble_eq_true rfl, Nat.le_of_ble_eq_true rfl⟩ (Nat.le_of_ble_eq_true rfl) ⟨by show _ ≤ 600104; omega, by show _ ≤ 7301314; omega⟩ (fun s6 hD6 => ?_)
      refine r_aload_n dL_law_509 rfl rfl ?_
      refine r_iload_n dL_law_510 rfl rfl ?_
      refine r_iload dL_law_511 rfl ?_
      refine r_isub dL_law_513 ?_
      have hx9 : s6 46 ((acts : Int) - (j : Int)) = seenF (u (a + (r + 1))) := by rw [hD6.2.2 46 (Nat.le_refl _), show (acts : Int) - (j : Int) = ((acts - j : Nat) : Int) by omega, hw _ (by omega), show 4 + (acts - j) = a + (r + 1) by omega]
      refine r_lald (x := seenF (u (a + (r + 1)))) dL_law_514 sh46 (by omega) hx9 ?_
      refine r_lcmpE dL_law_515 ?_
      refine r_if_ne (tgt := 530) dL_law_516 (by decide) (by omega) (fun hb7 => absurd hb7 (by omega)) (fun hb7 => ?_)
      refine r_aload_n dL_law_519 rfl rfl ?_
      refine r_kX hD6 EL_ok (uX_undo G _ hD6.1 hD6.2.1) (oUndo_hs) dL_law_520 svX7_undo q341 sh0 (ci := 7) rfl rfl rfl ⟨Nat.le_of_ble_eq_true rfl, Nat.le_of_ble_eq_true rfl⟩ (Nat.le_of_ble_eq_true rfl) ⟨by show _ ≤ 600104; omega, by show _ ≤ 7301314; omega⟩ (fun s8 hD8 => ?_)
      refine r_iload dL_law_523 rfl ?_
      refine r_iconst dL_law_525 ?_
      refine r_isub dL_law_526 ?_
      refine r_icmp_eqE (tgt := 532) dL_law_527 (by decide) (by omega) ?_
      refine r_iinc (lv' := [(0, .ref b), (1, Rf G 0), (2, Rf G 46), (3, I (acts : Int)), (4, Lg (seenF al_5.1)), (6, I ((j : Int) + 1)), (7, I ((r + 1 : Nat) : Int))]) dL_law_532 (Nat.le_of_ble_eq_true rfl) rfl rfl ?_
      refine r_goto (tgt := 476) dL_law_535 (by decide) ?_
      rw [show (j : Int) + 1 = ((j + 1 : Nat) : Int) from rfl]
      refine r_sub [0, 1, 2, 3, 4, 5] rfl ?_
      refine r_widen (k2 := 26300 + 350 * (j + 1)) (n2 := 166000 + 2100 * (j + 1)) (by omega) (by omega) ?_
      exact ih (j + 1) s8 (by omega) (by omega) (by omega) (Done.rf hD8.1 hD8.2.1) (fun m hm => by rw [hD8.2.2 46 (Nat.le_refl _)]; exact hw m hm)
set_option maxHeartbeats 1000000 in
set_option maxRecDepth 100000 in
theorem law_loop {G : GT} {b L : Nat} {xs : Nat → Int32} (hL : (L : Int) ≤ 260) : ∀ (fu i : Nat) (s : Sg) (u : Nat → St) (a n acts : Nat), i + fu = 28 → LIv s u a n acts → acts ≤ i → Rn G mL_law room_1 (EL G b L xs) ZL false SH1 (5400 + 700 * i) (40000 + 4200 * i) 99 [(0, .ref b), (1, Rf G 0), (2, Rf G 46), (3, I (acts : Int)), (4, Lg (seenF al_5.1)), (6, I (i : Int))] [] s := by
  intro fu
  induction fu with
  | zero =>
    intro i s u a n acts hi hI hact
    obtain ⟨hci, hA, hN, hn, hw⟩ := hI
    have hD : Done s s (u (a + n), hs u a n, al_5.2.2) := Done.rf hci hA
    refine r_iload dL_law_99 rfl ?_
    refine r_bipush dL_law_101 rfl ?_
    refine r_icmp_ge (tgt := 457) dL_law_103 (by decide) (by omega) (fun hb1 => ?_) (fun hb1 => absurd hb1 (by omega))
    refine r_aload_n dL_law_457 rfl rfl ?_
    refine r_iload_n dL_law_458 rfl rfl ?_
    refine r_aload_n dL_law_459 rfl rfl ?_
    refine r_kY hD EL_ok (tL_seen G _ hD.1 hD.2.1) dL_law_460 svL_seen q529 rfl ⟨Nat.le_of_ble_eq_true rfl, Nat.le_of_ble_eq_true rfl⟩ (Nat.le_of_ble_eq_true rfl) ⟨by show _ ≤ 600104; omega, by show _ ≤ 7301314; omega⟩ (fun s2 hD2 => ?_)
    refine r_last dL_law_463 sh46 (by omega) ?_
    have hc9 := CI_46 (i := (acts : Int)) (v := seenF (u (a + n))) hD2.1
    obtain ⟨s9, hs9⟩ : ∃ z, z = up s2 46 (acts : Int) (seenF (u (a + n))) := ⟨_, rfl⟩
    rw [← hs9]
    rw [← hs9] at hc9
    have hA9 : absC s9 = (u (a + n), hs u a n, al_5.2.2) := hc9.2.trans hD2.2.1
    have hD9 : Done s9 s9 (u (a + n), hs u a n, al_5.2.2) := Done.rf hc9.1 hA9
    have hw9 : ∀ m : Nat, m ≤ acts → s9 46 (m : Int) = seenF (u (4 + m)) := fun m hm => by
      by_cases e : m = acts
      · subst e; rw [hs9, up_eq, show a + n = 4 + m by omega]
      · rw [hs9, up_nj (by omega), hD2.2.2 46 (Nat.le_refl _)]; exact hw m (by omega)
    refine r_aload_n dL_law_464 rfl rfl ?_
    refine r_kY hD9 EL_ok (tL_refused G _ hD9.1 hD9.2.1 al_buf) dL_law_465 svL_refused q539 rfl ⟨Nat.le_of_ble_eq_true rfl, Nat.le_of_ble_eq_true rfl⟩ (Nat.le_of_ble_eq_true rfl) ⟨by show _ ≤ 600104; omega, by show _ ≤ 7301314; omega⟩ (fun s3 hD3 => ?_)
    refine r_if_ne (tgt := 473) dL_law_468 (by decide) (by omega) (fun hb4 => ?_) (fun hb4 => absurd hb4 (by omega))
    refine r_iconst dL_law_473 ?_
    refine r_istore (lv' := [(0, .ref b), (1, Rf G 0), (2, Rf G 46), (3, I (acts : Int)), (4, Lg (seenF al_5.1)), (6, I 0)]) dL_law_474 (Nat.le_of_ble_eq_true rfl) rfl ?_
    rw [show (0 : Int) = ((0 : Nat) : Int) from rfl]
    refine r_widen (k2 := 26300 + 350 * 0) (n2 := 166000 + 2100 * 0) (by omega) (by omega) ?_
    exact law_undo (by omega) n 0 _ (by omega) (by omega) (by omega) (Done.rf hD3.1 hD3.2.1) (fun m hm => by rw [hD3.2.2 46 (Nat.le_refl _)]; exact hw9 m hm)
  | succ fu ih =>
    intro i s u a n acts hi hI hact
    exact law_body i (by omega) hI hact hL (by omega) (by omega) (fun s' u' a' n' acts' h1 h2 => r_widen (k2 := 5400 + 700 * (i + 1)) (n2 := 40000 + 4200 * (i + 1)) (by omega) (by omega) (ih (i + 1) s' u' a' n' acts' (by omega) h1 h2))
set_option maxHeartbeats 1000000 in
set_option maxRecDepth 100000 in
theorem law_start {G : GT} {b L : Nat} {xs : Nat → Int32} (hL : (L : Int) ≤ 260) : Rn G mL_law room_1 (EL G b L xs) ZL false [] 0 0 0 [(0, .ref b)] [] (fun _ _ => 0) := by
  refine r_callSm (fun G' => tL_small G') dL_law_0 svL_small q550 rfl ⟨Nat.le_of_ble_eq_true rfl, Nat.le_of_ble_eq_true rfl⟩ (Nat.le_of_ble_eq_true rfl) ⟨Nat.le_of_ble_eq_true rfl, Nat.le_of_ble_eq_true rfl⟩ (fun r9 s9 h9 => ?_)
  subst h9
  refine r_if_eq (tgt := 18) dL_law_3 (by decide) (by omega) (fun hb1 => absurd hb1 (by omega)) (fun hb1 => ?_)
  refine r_callSm (fun G' => tL_weights G') dL_law_6 svL_weights q564 rfl ⟨Nat.le_of_ble_eq_true rfl, Nat.le_of_ble_eq_true rfl⟩ (Nat.le_of_ble_eq_true rfl) ⟨Nat.le_of_ble_eq_true rfl, Nat.le_of_ble_eq_true rfl⟩ (fun r9 s9 h9 => ?_)
  subst h9
  refine r_if_eq (tgt := 18) dL_law_9 (by decide) (by omega) (fun hb2 => absurd hb2 (by omega)) (fun hb2 => ?_)
  refine r_callSm (fun G' => tL_texts G') dL_law_12 svL_texts q570 rfl ⟨Nat.le_of_ble_eq_true rfl, Nat.le_of_ble_eq_true rfl⟩ (Nat.le_of_ble_eq_true rfl) ⟨Nat.le_of_ble_eq_true rfl, Nat.le_of_ble_eq_true rfl⟩ (fun r9 s9 h9 => ?_)
  subst h9
  refine r_if_ne (tgt := 20) dL_law_15 (by decide) (by omega) (fun hb3 => ?_) (fun hb3 => absurd hb3 (by omega))
  refine r_switch (fun G1 => ?_)
  refine r_new (ci := 7) (N := 8) (sh2 := ms0) tyX7 dL_law_20 q16 q17 q1 rfl tyX7_ok ixX7 (a := 0) rfl rfl rfl hfs7 (Nat.le_of_ble_eq_true rfl) (Nat.le_of_ble_eq_true rfl) ?_
  refine r_dup dL_law_23 rfl ?_
  refine r_callA EL_ao (tX7_init_0 G1 _ (fun q _ => rfl)) dL_law_24 svX7_init q18 rfl ⟨Nat.le_of_ble_eq_true rfl, Nat.le_of_ble_eq_true rfl⟩ (Nat.le_of_ble_eq_true rfl) ⟨Nat.le_of_ble_eq_true rfl, Nat.le_of_ble_eq_true rfl⟩ ?_
  rintro _ s7 ⟨rfl, h7⟩
  refine r_astore_n (lv' := [(0, .ref b), (1, Rf G1 0)]) dL_law_27 rfl (Nat.le_of_ble_eq_true rfl) rfl ?_
  refine r_bipush dL_law_28 rfl ?_
  refine r_newl (N := 64) (sh2 := SH1) dL_law_30 rfl (Nat.le_of_ble_eq_true rfl) (a := 46) rfl rfl (h7.1 46 (by decide)) (Nat.le_of_ble_eq_true rfl) (Nat.le_of_ble_eq_true rfl) ?_
  refine r_astore_n (lv' := [(0, .ref b), (1, Rf G1 0), (2, Rf G1 46)]) dL_law_32 rfl (Nat.le_of_ble_eq_true rfl) rfl ?_
  refine r_loose ?_
  refine r_widen (k2 := 4800) (n2 := 33000) (Nat.le_of_ble_eq_true rfl) (Nat.le_of_ble_eq_true rfl) ?_
  have hc7 := made_c h7
  have hD : Done s7 s7 A00 := Done.rf hc7.1 hc7.2
  refine r_iconst dL_law_33 ?_
  refine r_istore_n (lv' := [(0, .ref b), (1, Rf G1 0), (2, Rf G1 46), (3, I 0)]) dL_law_34 rfl (Nat.le_of_ble_eq_true rfl) rfl ?_
  refine r_aload_n dL_law_35 rfl rfl ?_
  refine r_iconst dL_law_36 ?_
  refine r_iconst dL_law_37 ?_
  refine r_iconst dL_law_38 ?_
  refine r_iconst dL_law_39 ?_
  refine r_kX hD EL_ok (uX_points G1 _ 3 1 3 1 hD.1 hD.2.1 (by decide)) (mk3 (z := 1) (A := al_1) ⟨by decide +kernel, by decide +kernel⟩ rfl) dL_law_40 svX7_points q217 sh0 (ci := 7) rfl rfl rfl ⟨Nat.le_of_ble_eq_true rfl, Nat.le_of_ble_eq_true rfl⟩ (Nat.le_of_ble_eq_true rfl) ⟨Nat.le_of_ble_eq_true rfl, Nat.le_of_ble_eq_true rfl⟩ (fun s4 hD4 => ?_)
  refine r_iconst dL_law_43 ?_
  refine r_icmp_neE (tgt := 88) dL_law_44 (by decide) (rfl) ?_
  refine r_aload_n dL_law_47 rfl rfl ?_
  refine r_iconst dL_law_48 ?_
  refine r_iconst dL_law_49 ?_
  refine r_bipush dL_law_50 rfl ?_
  refine r_kX hD4 EL_ok (uX_put G1 _ 2 1 40 hD4.1 hD4.2.1 (by decide)) (mk3 (z := 1) (A := al_2) ⟨by decide +kernel, by decide +kernel⟩ rfl) dL_law_52 svX7_put q139 sh0 (ci := 7) rfl rfl rfl ⟨Nat.le_of_ble_eq_true rfl, Nat.le_of_ble_eq_true rfl⟩ (Nat.le_of_ble_eq_true rfl) ⟨Nat.le_of_ble_eq_true rfl, Nat.le_of_ble_eq_true rfl⟩ (fun s5 hD5 => ?_)
  refine r_iconst dL_law_55 ?_
  refine r_icmp_neE (tgt := 88) dL_law_56 (by decide) (rfl) ?_
  refine r_aload_n dL_law_59 rfl rfl ?_
  refine r_bipush dL_law_60 rfl ?_
  refine r_kX hD5 EL_ok (uX_weigh G1 _ 7 hD5.1 hD5.2.1 (by decide)) (mk3 (z := 2) (A := al_3) ⟨by decide +kernel, by decide +kernel⟩ rfl) dL_law_62 svX7_weigh q316 sh0 (ci := 7) rfl rfl rfl ⟨Nat.le_of_ble_eq_true rfl, Nat.le_of_ble_eq_true rfl⟩ (Nat.le_of_ble_eq_true rfl) ⟨Nat.le_of_ble_eq_true rfl, Nat.le_of_ble_eq_true rfl⟩ (fun s6 hD6 => ?_)
  refine r_iconst dL_law_65 ?_
  refine r_icmp_neE (tgt := 88) dL_law_66 (by decide) (rfl) ?_
  refine r_aload_n dL_law_69 rfl rfl ?_
  refine r_iconst dL_law_70 ?_
  refine r_kX hD6 EL_ok (uX_find G1 _ 0 hD6.1 hD6.2.1 (by decide)) (mk3 (z := 16) (A := al_4) ⟨by decide +kernel, by decide +kernel⟩ rfl) dL_law_71 svX7_find q244 sh0 (ci := 7) rfl rfl rfl ⟨Nat.le_of_ble_eq_true rfl, Nat.le_of_ble_eq_true rfl⟩ (Nat.le_of_ble_eq_true rfl) ⟨Nat.le_of_ble_eq_true rfl, Nat.le_of_ble_eq_true rfl⟩ (fun s7 hD7 => ?_)
  refine r_bipush dL_law_74 rfl ?_
  refine r_icmp_neE (tgt := 88) dL_law_76 (by decide) (rfl) ?_
  refine r_aload_n dL_law_79 rfl rfl ?_
  refine r_iconst dL_law_80 ?_
  refine r_kX hD7 EL_ok (uX_keep G1 _ 1 hD7.1 hD7.2.1 (by decide)) (mk3 (z := 4) (A := al_5) ⟨by decide +kernel, by decide +kernel⟩ rfl) dL_law_81 svX7_keep q324 sh0 (ci := 7) rfl rfl rfl ⟨Nat.le_of_ble_eq_true rfl, Nat.le_of_ble_eq_true rfl⟩ (Nat.le_of_ble_eq_true rfl) ⟨Nat.le_of_ble_eq_true rfl, Nat.le_of_ble_eq_true rfl⟩ (fun s8 hD8 => ?_)
  refine r_iconst dL_law_84 ?_
  refine r_icmp_eqE (tgt := 90) dL_law_85 (by decide) (rfl) ?_
  refine r_aload_n dL_law_90 rfl rfl ?_
  refine r_kY hD8 EL_ok (tL_seen G1 _ hD8.1 hD8.2.1) dL_law_91 svL_seen q529 rfl ⟨Nat.le_of_ble_eq_true rfl, Nat.le_of_ble_eq_true rfl⟩ (Nat.le_of_ble_eq_true rfl) ⟨Nat.le_of_ble_eq_true rfl, Nat.le_of_ble_eq_true rfl⟩ (fun s9 hD9 => ?_)
  refine r_lstore (lv' := [(0, .ref b), (1, Rf G1 0), (2, Rf G1 46), (3, I 0), (4, Lg (seenF al_5.1))]) dL_law_94 (Nat.le_of_ble_eq_true rfl) rfl ?_
  refine r_iconst dL_law_96 ?_
  refine r_istore (lv' := [(0, .ref b), (1, Rf G1 0), (2, Rf G1 46), (3, I 0), (4, Lg (seenF al_5.1)), (6, I 0)]) dL_law_97 (Nat.le_of_ble_eq_true rfl) rfl ?_
  refine r_widen (k2 := 5400 + 700 * 0) (n2 := 40000 + 4200 * 0) (Nat.le_of_ble_eq_true rfl) (Nat.le_of_ble_eq_true rfl) ?_
  have hz : absC s9 = (u0 (0 + 4), hs u0 0 4, al_5.2.2) := by rw [u0_hs]; exact hD9.2.1
  exact law_loop hL 28 0 s9 u0 0 4 0 rfl ⟨hD9.1, hz, rfl, by decide, fun j hj => absurd hj (Nat.not_lt_zero _)⟩ (Nat.le_refl _)
