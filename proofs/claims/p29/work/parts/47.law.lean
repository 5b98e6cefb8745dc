variable {Ω : List Ob}

theorem oCount_8n {A : Ab} {n : Nat} (h : A.2.1.length = n) : oCount A 8 = (0, (n : Int), A) := by subst h; rfl
def LIv (s : Sg) (u : Nat → St) (a n acts : Nat) : Prop := CI s ∧ absC s = (u (a + n), hs u a n, al_5.2.2) ∧ a + n = 4 + acts ∧ n ≤ 6 ∧ ∀ j : Nat, j < acts → s 46 (j : Int) = seenF (u (4 + j))
theorem sh46 : SH1[46]? = some (.inr (.inr (.inl 64))) := rfl

set_option maxHeartbeats 1000000 in
set_option maxRecDepth 100000 in
theorem law_tail {G : GT} {b L : Nat} {xs : Nat → Int32} {k nn : Nat} {s1 s2 : Sg} {u : Nat → St} {a n acts : Nat} {D x kd za zb : Int} {B : Ab} (i : Nat) (hi : i < 28) (hA1 : absC s1 = (u (a + n), hs u a n, al_5.2.2)) (hD : Done s1 s2 B) (hst : StepP (u (a + n), hs u a n, al_5.2.2) D B) (hn : n ≤ 6) (hN : a + n = 4 + acts) (hact : acts ≤ i)
    (hw : ∀ j : Nat, j < acts → s1 46 (j : Int) = seenF (u (4 + j))) (hwa : s1 46 (acts : Int) = seenF (u (a + n))) (hk : k + 350 ≤ 600000) (hnn : nn + 2100 ≤ 7000000)
    (kk : ∀ (s' : Sg) (u' : Nat → St) (a' n' acts' : Nat), LIv s' u' a' n' acts' → acts' ≤ i + 1 → Rn G mL_law room_1 (EL G b L xs) ZL false SH1 (k + 350) (nn + 2100) 99 [(0, .ref b), (1, Rf G 0), (2, Rf G 46), (3, I (acts' : Int)), (4, Lg (seenF al_5.1)), (6, I ((i + 1 : Nat) : Int))] [] s') : Rn G mL_law room_1 (EL G b L xs) ZL false SH1 (k) (nn) 394 [(0, .ref b), (1, Rf G 0), (2, Rf G 46), (3, I (acts : Int)), (4, Lg (seenF al_5.1)), (6, I (i : Int)), (7, I x), (8, I kd), (9, I (n : Int)), (10, I za), (11, I zb)] [I D] s2 := by
  have hDb : -13 ≤ D ∧ D ≤ 2147483647 := by rcases hst with h | h <;> omega
  refine r_istore (lv' := [(0, .ref b), (1, Rf G 0), (2, Rf G 46), (3, I (acts : Int)), (4, Lg (seenF al_5.1)), (6, I (i : Int)), (7, I x), (8, I kd), (9, I (n : Int)), (10, I za), (11, I zb), (12, I D)]) dL_law_394 (Nat.le_of_ble_eq_true rfl) rfl ?_
  refine r_iload dL_law_396 rfl ?_
  refine r_iconst dL_law_398 ?_
  refine r_icmp_ge (tgt := 406) dL_law_399 (by decide) (by omega) (fun hb1 => ?_) (fun hb1 => ?_)
  · skip
    rcases hst with ⟨-, -, y, rfl⟩ | h9
    rotate_left
    · exact absurd hb1 (by omega)
    refine r_iconst dL_law_406 ?_
    refine r_istore (lv' := [(0, .ref b), (1, Rf G 0), (2, Rf G 46), (3, I (acts : Int)), (4, Lg (seenF al_5.1)), (6, I (i : Int)), (7, I x), (8, I kd), (9, I (n : Int)), (10, I za), (11, I zb), (12, I D), (13, I 0)]) dL_law_407 (Nat.le_of_ble_eq_true rfl) rfl ?_
    refine r_iload dL_law_409 rfl ?_
    refine r_if_eq (tgt := 438) dL_law_411 (by decide) (by omega) (fun hb2 => ?_) (fun hb2 => absurd hb2 (by omega))
    refine r_iload_n dL_law_438 rfl rfl ?_
    refine r_iload dL_law_439 rfl ?_
    refine r_if_eq (tgt := 448) dL_law_441 (by decide) (by omega) (fun hb3 => ?_) (fun hb3 => absurd hb3 (by omega))
    refine r_iconst dL_law_448 ?_
    refine r_iadd dL_law_449 ?_
    refine r_istore_n (lv' := [(0, .ref b), (1, Rf G 0), (2, Rf G 46), (3, I ((acts : Int) + 1)), (4, Lg (seenF al_5.1)), (6, I (i : Int)), (7, I x), (8, I kd), (9, I (n : Int)), (10, I za), (11, I zb), (12, I D), (13, I 0)]) dL_law_450 rfl (Nat.le_of_ble_eq_true rfl) rfl ?_
    refine r_iinc (lv' := [(0, .ref b), (1, Rf G 0), (2, Rf G 46), (3, I ((acts : Int) + 1)), (4, Lg (seenF al_5.1)), (6, I ((i : Int) + 1)), (7, I x), (8, I kd), (9, I (n : Int)), (10, I za), (11, I zb), (12, I D), (13, I 0)]) dL_law_451 (Nat.le_of_ble_eq_true rfl) rfl rfl ?_
    refine r_goto (tgt := 99) dL_law_454 (by decide) ?_
    obtain ⟨u', a', n', g1, g2, g3, g4⟩ := push_inv (u := u) (a := a) (q := al_5.2.2) hn y
    rw [show (acts : Int) + 1 = ((acts + 1 : Nat) : Int) from rfl]
    rw [show (i : Int) + 1 = ((i + 1 : Nat) : Int) from rfl]
    refine r_sub [0, 1, 2, 3, 4, 5] rfl ?_
    refine r_widen (k2 := k + 350) (n2 := nn + 2100) (by omega) (by omega) ?_
    refine kk s2 u' a' n' (acts + 1) ⟨hD.1, hD.2.1.trans g1, by omega, g3, fun j hj => ?_⟩ (by omega)
    rw [hD.2.2 46 (Nat.le_refl _), g4 _ (by omega)]
    by_cases e : j = acts
    · subst e; rw [hwa, show a + n = 4 + j by omega]
    · exact hw j (by omega)
  · skip
    rcases hst with h9 | ⟨-, -, rfl⟩
    · exact absurd h9.1 (by omega)
    refine r_iconst dL_law_402 ?_
    refine r_goto (tgt := 407) dL_law_403 (by decide) ?_
    refine r_istore (lv' := [(0, .ref b), (1, Rf G 0), (2, Rf G 46), (3, I (acts : Int)), (4, Lg (seenF al_5.1)), (6, I (i : Int)), (7, I x), (8, I kd), (9, I (n : Int)), (10, I za), (11, I zb), (12, I D), (13, I 1)]) dL_law_407 (Nat.le_of_ble_eq_true rfl) rfl ?_
    refine r_iload dL_law_409 rfl ?_
    refine r_if_eq (tgt := 438) dL_law_411 (by decide) (by omega) (fun hb2 => absurd hb2 (by omega)) (fun hb2 => ?_)
    refine r_aload_n dL_law_414 rfl rfl ?_
    refine r_bipush dL_law_415 rfl ?_
    refine r_kX hD EL_ok (uX_count G _ 8 hD.1 hD.2.1 (by decide)) (oCount_8n hs_len) dL_law_417 svX7_count q349 sh0 (ci := 7) rfl rfl rfl ⟨Nat.le_of_ble_eq_true rfl, Nat.le_of_ble_eq_true rfl⟩ (Nat.le_of_ble_eq_true rfl) ⟨by show _ ≤ 600104; omega, by show _ ≤ 7301314; omega⟩ (fun s3 hD3 => ?_)
    refine r_iload dL_law_420 rfl ?_
    refine r_icmp_neE (tgt := 436) dL_law_422 (by decide) (rfl) ?_
    refine r_aload_n dL_law_425 rfl rfl ?_
    refine r_kY hD3 EL_ok (tL_seen G _ hD3.1 hD3.2.1) dL_law_426 svL_seen q529 rfl ⟨Nat.le_of_ble_eq_true rfl, Nat.le_of_ble_eq_true rfl⟩ (Nat.le_of_ble_eq_true rfl) ⟨by show _ ≤ 600104; omega, by show _ ≤ 7301314; omega⟩ (fun s4 hD4 => ?_)
    refine r_aload_n dL_law_429 rfl rfl ?_
    refine r_iload_n dL_law_430 rfl rfl ?_
    have hx9 : s4 46 (acts : Int) = seenF (u (a + n)) := by rw [hD4.2.2 46 (Nat.le_refl _), hwa]
    refine r_lald (x := seenF (u (a + n))) dL_law_431 sh46 (by omega) hx9 ?_
    refine r_lcmpE dL_law_432 ?_
    refine r_if_eq (tgt := 438) dL_law_433 (by decide) (by omega) (fun hb5 => ?_) (fun hb5 => absurd hb5 (by omega))
    refine r_iload_n dL_law_438 rfl rfl ?_
    refine r_iload dL_law_439 rfl ?_
    refine r_if_eq (tgt := 448) dL_law_441 (by decide) (by omega) (fun hb6 => absurd hb6 (by omega)) (fun hb6 => ?_)
    refine r_iconst dL_law_444 ?_
    refine r_goto (tgt := 449) dL_law_445 (by decide) ?_
    refine r_iadd dL_law_449 ?_
    refine r_istore_n (lv' := [(0, .ref b), (1, Rf G 0), (2, Rf G 46), (3, I ((acts : Int) + 0)), (4, Lg (seenF al_5.1)), (6, I (i : Int)), (7, I x), (8, I kd), (9, I (n : Int)), (10, I za), (11, I zb), (12, I D), (13, I 1)]) dL_law_450 rfl (Nat.le_of_ble_eq_true rfl) rfl ?_
    refine r_iinc (lv' := [(0, .ref b), (1, Rf G 0), (2, Rf G 46), (3, I ((acts : Int) + 0)), (4, Lg (seenF al_5.1)), (6, I ((i : Int) + 1)), (7, I x), (8, I kd), (9, I (n : Int)), (10, I za), (11, I zb), (12, I D), (13, I 1)]) dL_law_451 (Nat.le_of_ble_eq_true rfl) rfl rfl ?_
    refine r_goto (tgt := 99) dL_law_454 (by decide) ?_
    rw [show (acts : Int) + 0 = (acts : Int) from Int.add_zero _]
    rw [show (i : Int) + 1 = ((i + 1 : Nat) : Int) from rfl]
    refine r_sub [0, 1, 2, 3, 4, 5] rfl ?_
    refine r_widen (k2 := k + 350) (n2 := nn + 2100) (by omega) (by omega) ?_
    refine kk s4 u a n acts ⟨hD4.1, hD4.2.1, hN, hn, fun j hj => ?_⟩ (by omega)
    rw [hD4.2.2 46 (Nat.le_refl _)]
    exact hw j hj
set_option maxHeartbeats 1000000 in
set_option maxRecDepth 100000 in
theorem law_body {G : GT} {b L : Nat} {xs : Nat → Int32} {k nn : Nat} {s : Sg} {u : Nat → St} {a n acts : Nat} (i : Nat) (hi : i < 28) (hI : LIv s u a n acts) (hact : acts ≤ i) (hL : (L : Int) ≤ 260) (hk : k + 700 ≤ 600000) (hnn : nn + 4200 ≤ 7000000)
    (kk : ∀ (s' : Sg) (u' : Nat → St) (a' n' acts' : Nat), LIv s' u' a' n' acts' → acts' ≤ i + 1 → Rn G mL_law room_1 (EL G b L xs) ZL false SH1 (k + 700) (nn + 4200) 99 [(0, .ref b), (1, Rf G 0), (2, Rf G 46), (3, I (acts' : Int)), (4, Lg (seenF al_5.1)), (6, I ((i + 1 : Nat) : Int))] [] s') : Rn G mL_law room_1 (EL G b L xs) ZL false SH1 (k) (nn) 99 [(0, .ref b), (1, Rf G 0), (2, Rf G 46), (3, I (acts : Int)), (4, Lg (seenF al_5.1)), (6, I (i : Int))] [] s := by
  obtain ⟨hci, hA, hN, hn, hw⟩ := hI
  have hD : Done s s (u (a + n), hs u a n, al_5.2.2) := Done.rf hci hA
  have hO := hD.ok
  refine r_iload dL_law_99 rfl ?_
  refine r_bipush dL_law_101 rfl ?_
  refine r_icmp_ge (tgt := 457) dL_law_103 (by decide) (by omega) (fun hb1 => absurd hb1 (by omega)) (fun hb1 => ?_)
  refine r_aloadb_n dL_law_106 rfl rfl ?_
  refine r_iload dL_law_107 rfl ?_
  refine r_callD EL_ed (tL_drawn G _ b L xs (i : Int) (by omega) hL) dL_law_109 svL_drawn q373 rfl ⟨Nat.le_of_ble_eq_true rfl, Nat.le_of_ble_eq_true rfl⟩ (Nat.le_of_ble_eq_true rfl) ⟨by show _ ≤ 600104; omega, by show _ ≤ 7301314; omega⟩ ?_
  rintro _ _ ⟨⟨x, rfl, hx1, hx2⟩, rfl⟩
  refine r_istore (lv' := [(0, .ref b), (1, Rf G 0), (2, Rf G 46), (3, I (acts : Int)), (4, Lg (seenF al_5.1)), (6, I (i : Int)), (7, I x)]) dL_law_112 (Nat.le_of_ble_eq_true rfl) rfl ?_
  refine r_iload dL_law_114 rfl ?_
  refine r_bipush dL_law_116 rfl ?_
  refine r_callS (tL_part G _ x 18 (by decide)) dL_law_118 svL_part q369 rfl ⟨Nat.le_of_ble_eq_true rfl, Nat.le_of_ble_eq_true rfl⟩ (Nat.le_of_ble_eq_true rfl) ⟨by show _ ≤ 600104; omega, by show _ ≤ 7301314; omega⟩ ?_
  rintro _ _ ⟨⟨kd, rfl, kdl, kdh⟩, rfl⟩
  refine r_istore (lv' := [(0, .ref b), (1, Rf G 0), (2, Rf G 46), (3, I (acts : Int)), (4, Lg (seenF al_5.1)), (6, I (i : Int)), (7, I x), (8, I kd)]) dL_law_121 (Nat.le_of_ble_eq_true rfl) rfl ?_
  refine r_aload_n dL_law_123 rfl rfl ?_
  refine r_iload_n dL_law_124 rfl rfl ?_
  refine r_aload_n dL_law_125 rfl rfl ?_
  refine r_kY hD EL_ok (tL_seen G _ hD.1 hD.2.1) dL_law_126 svL_seen q529 rfl ⟨Nat.le_of_ble_eq_true rfl, Nat.le_of_ble_eq_true rfl⟩ (Nat.le_of_ble_eq_true rfl) ⟨by show _ ≤ 600104; omega, by show _ ≤ 7301314; omega⟩ (fun s2 hD2 => ?_)
  refine r_last dL_law_129 sh46 (by omega) ?_
  have hc9 := CI_46 (i := (acts : Int)) (v := seenF (u (a + n))) hD2.1
  obtain ⟨s9, hs9⟩ : ∃ z, z = up s2 46 (acts : Int) (seenF (u (a + n))) := ⟨_, rfl⟩
  rw [← hs9]
  rw [← hs9] at hc9
  have hA9 : absC s9 = (u (a + n), hs u a n, al_5.2.2) := hc9.2.trans hD2.2.1
  have hD9 : Done s9 s9 (u (a + n), hs u a n, al_5.2.2) := Done.rf hc9.1 hA9
  have hw9 : ∀ j : Nat, j < acts → s9 46 (j : Int) = seenF (u (4 + j)) := fun j hj => by rw [hs9, up_nj (by omega), hD2.2.2 46 (Nat.le_refl _)]; exact hw j hj
  have hwa9 : s9 46 (acts : Int) = seenF (u (a + n)) := by rw [hs9, up_eq]
  refine r_aload_n dL_law_130 rfl rfl ?_
  refine r_bipush dL_law_131 rfl ?_
  refine r_kX hD9 EL_ok (uX_count G _ 8 hD9.1 hD9.2.1 (by decide)) (oCount_8n hs_len) dL_law_133 svX7_count q349 sh0 (ci := 7) rfl rfl rfl ⟨Nat.le_of_ble_eq_true rfl, Nat.le_of_ble_eq_true rfl⟩ (Nat.le_of_ble_eq_true rfl) ⟨by show _ ≤ 600104; omega, by show _ ≤ 7301314; omega⟩ (fun s3 hD3 => ?_)
  refine r_istore (lv' := [(0, .ref b), (1, Rf G 0), (2, Rf G 46), (3, I (acts : Int)), (4, Lg (seenF al_5.1)), (6, I (i : Int)), (7, I x), (8, I kd), (9, I (n : Int))]) dL_law_136 (Nat.le_of_ble_eq_true rfl) rfl ?_
  refine r_iload dL_law_138 rfl ?_
  refine r_iconst dL_law_140 ?_
  refine r_ishrA dL_law_141 (fun w1 hw1 => ?_)
  refine r_iconst dL_law_142 ?_
  refine r_callS (tL_part G _ w1 5 (by decide)) dL_law_143 svL_part q369 rfl ⟨Nat.le_of_ble_eq_true rfl, Nat.le_of_ble_eq_true rfl⟩ (Nat.le_of_ble_eq_true rfl) ⟨by show _ ≤ 600104; omega, by show _ ≤ 7301314; omega⟩ ?_
  rintro _ _ ⟨⟨za, rfl, zal, zah⟩, rfl⟩
  refine r_istore (lv' := [(0, .ref b), (1, Rf G 0), (2, Rf G 46), (3, I (acts : Int)), (4, Lg (seenF al_5.1)), (6, I (i : Int)), (7, I x), (8, I kd), (9, I (n : Int)), (10, I za)]) dL_law_146 (Nat.le_of_ble_eq_true rfl) rfl ?_
  refine r_iload dL_law_148 rfl ?_
  refine r_bipush dL_law_150 rfl ?_
  refine r_ishrA dL_law_152 (fun w2 hw2 => ?_)
  refine r_iconst dL_law_153 ?_
  refine r_callS (tL_part G _ w2 5 (by decide)) dL_law_154 svL_part q369 rfl ⟨Nat.le_of_ble_eq_true rfl, Nat.le_of_ble_eq_true rfl⟩ (Nat.le_of_ble_eq_true rfl) ⟨by show _ ≤ 600104; omega, by show _ ≤ 7301314; omega⟩ ?_
  rintro _ _ ⟨⟨zb, rfl, zbl, zbh⟩, rfl⟩
  refine r_istore (lv' := [(0, .ref b), (1, Rf G 0), (2, Rf G 46), (3, I (acts : Int)), (4, Lg (seenF al_5.1)), (6, I (i : Int)), (7, I x), (8, I kd), (9, I (n : Int)), (10, I za), (11, I zb)]) dL_law_157 (Nat.le_of_ble_eq_true rfl) rfl ?_
  refine r_iload dL_law_159 rfl ?_
  refine r_bipush dL_law_161 rfl ?_
  refine r_icmp_ge (tgt := 201) dL_law_163 (by decide) (by omega) (fun hb4 => ?_) (fun hb4 => ?_)
  · skip
    refine r_iload dL_law_201 rfl ?_
    refine r_bipush dL_law_203 rfl ?_
    refine r_icmp_ge (tgt := 255) dL_law_205 (by decide) (by omega) (fun hb5 => ?_) (fun hb5 => ?_)
    · skip
      refine r_iload dL_law_255 rfl ?_
      refine r_bipush dL_law_257 rfl ?_
      refine r_icmp_ne (tgt := 291) dL_law_259 (by decide) (by omega) (fun hb6 => ?_) (fun hb6 => ?_)
      · skip
        refine r_iload dL_law_291 rfl ?_
        refine r_bipush dL_law_293 rfl ?_
        refine r_icmp_ge (tgt := 317) dL_law_295 (by decide) (by omega) (fun hb7 => ?_) (fun hb7 => ?_)
        · skip
          refine r_iload dL_law_317 rfl ?_
          refine r_bipush dL_law_319 rfl ?_
          refine r_icmp_ne (tgt := 344) dL_law_321 (by decide) (by omega) (fun hb8 => ?_) (fun hb8 => ?_)
          · skip
            refine r_iload dL_law_344 rfl ?_
            refine r_bipush dL_law_346 rfl ?_
            refine r_icmp_ne (tgt := 363) dL_law_348 (by decide) (by omega) (fun hb9 => ?_) (fun hb9 => ?_)
            · skip
              refine r_iload dL_law_363 rfl ?_
              refine r_bipush dL_law_365 rfl ?_
              refine r_icmp_ge (tgt := 377) dL_law_367 (by decide) (by omega) (fun hb10 => ?_) (fun hb10 => ?_)
              · skip
                refine r_aload_n dL_law_377 rfl rfl ?_
                refine r_bipush dL_law_378 rfl ?_
                refine r_iload dL_law_380 rfl ?_
                refine r_iconst dL_law_382 ?_
                refine r_ishrA dL_law_383 (fun wp1 hwp1 => ?_)
                refine r_iconst dL_law_384 ?_
                refine r_callS (tL_part G _ wp1 2 (by decide)) dL_law_385 svL_part q369 rfl ⟨Nat.le_of_ble_eq_true rfl, Nat.le_of_ble_eq_true rfl⟩ (Nat.le_of_ble_eq_true rfl) ⟨by show _ ≤ 600104; omega, by show _ ≤ 7301314; omega⟩ ?_
                rintro _ _ ⟨⟨p1, rfl, p1l, p1h⟩, rfl⟩
                refine r_iconst dL_law_388 ?_
                refine r_iconst dL_law_389 ?_
                refine r_iconst dL_law_390 ?_
                refine r_kC hD3 EL_ok (tL_call9 G _ p1 0 0 0 hD3.1 hD3.2.1 (by omega)) (z := cvl (oBack (u (a + n), hs u a n, al_5.2.2) p1) (-12) (-13)) (rfl) (rfl) dL_law_391 q378 q0 q379 pd_call q377 rfl ⟨Nat.le_of_ble_eq_true rfl, Nat.le_of_ble_eq_true rfl⟩ (Nat.le_of_ble_eq_true rfl) ⟨by show _ ≤ 600104; omega, by show _ ≤ 7301314; omega⟩ (fun s11 hD11 => ?_)
                exact law_tail i hi hA9 hD11 (st_gen (by decide) (st_back hO) oBack_x) hn hN hact hw9 hwa9 (by omega) (by omega) (fun s' u' a' n' acts' h1 h2 => r_widen (by omega) (by omega) (kk s' u' a' n' acts' h1 h2))
              · skip
                refine r_aload_n dL_law_370 rfl rfl ?_
                refine r_kO hD3 (uX_mend G _ hD3.1 hD3.2.1) (oMend_is) dL_law_371 svX7_mend q239 sh0 (ci := 7) rfl rfl rfl ⟨Nat.le_of_ble_eq_true rfl, Nat.le_of_ble_eq_true rfl⟩ (Nat.le_of_ble_eq_true rfl) ⟨by show _ ≤ 600104; omega, by show _ ≤ 7301314; omega⟩ (fun s11 hD11 => ?_)
                refine r_goto (tgt := 394) dL_law_374 (by decide) ?_
                exact law_tail i hi hA9 hD11 (st_mend hO.1) hn hN hact hw9 hwa9 (by omega) (by omega) (fun s' u' a' n' acts' h1 h2 => r_widen (by omega) (by omega) (kk s' u' a' n' acts' h1 h2))
            · skip
              refine r_aload_n dL_law_351 rfl rfl ?_
              refine r_iconst dL_law_352 ?_
              refine r_iconst dL_law_353 ?_
              refine r_iconst dL_law_354 ?_
              refine r_iconst dL_law_355 ?_
              refine r_iconst dL_law_356 ?_
              refine r_kC hD3 EL_ok (tL_call5 G _ 0 0 0 0 hD3.1 hD3.2.1) (z := cvl (oUnweigh (u (a + n), hs u a n, al_5.2.2)) (-13) (-13)) (rfl) (rfl) dL_law_357 q378 q0 q379 pd_call q377 rfl ⟨Nat.le_of_ble_eq_true rfl, Nat.le_of_ble_eq_true rfl⟩ (Nat.le_of_ble_eq_true rfl) ⟨by show _ ≤ 600104; omega, by show _ ≤ 7301314; omega⟩ (fun s10 hD10 => ?_)
              refine r_goto (tgt := 394) dL_law_360 (by decide) ?_
              exact law_tail i hi hA9 hD10 (st_gen (by decide) (st_unweigh hO.1) oUnweigh_x) hn hN hact hw9 hwa9 (by omega) (by omega) (fun s' u' a' n' acts' h1 h2 => r_widen (by omega) (by omega) (kk s' u' a' n' acts' h1 h2))
          · skip
            refine r_aload_n dL_law_324 rfl rfl ?_
            refine r_iconst dL_law_325 ?_
            refine r_iload dL_law_326 rfl ?_
            refine r_iconst dL_law_328 ?_
            refine r_ishrA dL_law_329 (fun wp1 hwp1 => ?_)
            refine r_bipush dL_law_330 rfl ?_
            refine r_callS (tL_part G _ wp1 101 (by decide)) dL_law_332 svL_part q369 rfl ⟨Nat.le_of_ble_eq_true rfl, Nat.le_of_ble_eq_true rfl⟩ (Nat.le_of_ble_eq_true rfl) ⟨by show _ ≤ 600104; omega, by show _ ≤ 7301314; omega⟩ ?_
            rintro _ _ ⟨⟨p1, rfl, p1l, p1h⟩, rfl⟩
            refine r_iconst dL_law_335 ?_
            refine r_iconst dL_law_336 ?_
            refine r_iconst dL_law_337 ?_
            refine r_kC hD3 EL_ok (tL_call4 G _ p1 0 0 0 hD3.1 hD3.2.1 (by omega)) (z := cvl (oWeigh (u (a + n), hs u a n, al_5.2.2) p1) (-12) (-13)) (rfl) (rfl) dL_law_338 q378 q0 q379 pd_call q377 rfl ⟨Nat.le_of_ble_eq_true rfl, Nat.le_of_ble_eq_true rfl⟩ (Nat.le_of_ble_eq_true rfl) ⟨by show _ ≤ 600104; omega, by show _ ≤ 7301314; omega⟩ (fun s9 hD9 => ?_)
            refine r_goto (tgt := 394) dL_law_341 (by decide) ?_
            exact law_tail i hi hA9 hD9 (st_gen (by decide) (st_weigh hO.1) oWeigh_x) hn hN hact hw9 hwa9 (by omega) (by omega) (fun s' u' a' n' acts' h1 h2 => r_widen (by omega) (by omega) (kk s' u' a' n' acts' h1 h2))
        · skip
          refine r_aload_n dL_law_298 rfl rfl ?_
          refine r_iconst dL_law_299 ?_
          refine r_iload dL_law_300 rfl ?_
          refine r_iconst dL_law_302 ?_
          refine r_ishrA dL_law_303 (fun wp1 hwp1 => ?_)
          refine r_iconst dL_law_304 ?_
          refine r_callS (tL_part G _ wp1 4 (by decide)) dL_law_305 svL_part q369 rfl ⟨Nat.le_of_ble_eq_true rfl, Nat.le_of_ble_eq_true rfl⟩ (Nat.le_of_ble_eq_true rfl) ⟨by show _ ≤ 600104; omega, by show _ ≤ 7301314; omega⟩ ?_
          rintro _ _ ⟨⟨p1, rfl, p1l, p1h⟩, rfl⟩
          refine r_iconst dL_law_308 ?_
          refine r_iconst dL_law_309 ?_
          refine r_iconst dL_law_310 ?_
          refine r_kC hD3 EL_ok (tL_call3 G _ p1 0 0 0 hD3.1 hD3.2.1 (by omega)) (z := cvl (oFind (u (a + n), hs u a n, al_5.2.2) p1) (-12) (-13)) (rfl) (rfl) dL_law_311 q378 q0 q379 pd_call q377 rfl ⟨Nat.le_of_ble_eq_true rfl, Nat.le_of_ble_eq_true rfl⟩ (Nat.le_of_ble_eq_true rfl) ⟨by show _ ≤ 600104; omega, by show _ ≤ 7301314; omega⟩ (fun s8 hD8 => ?_)
          refine r_goto (tgt := 394) dL_law_314 (by decide) ?_
          exact law_tail i hi hA9 hD8 (st_gen (by decide) (st_find hO.1) oFind_x) hn hN hact hw9 hwa9 (by omega) (by omega) (fun s' u' a' n' acts' h1 h2 => r_widen (by omega) (by omega) (kk s' u' a' n' acts' h1 h2))
      · skip
        refine r_aload_n dL_law_262 rfl rfl ?_
        refine r_iconst dL_law_263 ?_
        refine r_iload dL_law_264 rfl ?_
        refine r_iconst dL_law_266 ?_
        refine r_ishrA dL_law_267 (fun wp1 hwp1 => ?_)
        refine r_bipush dL_law_268 rfl ?_
        refine r_callS (tL_part G _ wp1 12 (by decide)) dL_law_270 svL_part q369 rfl ⟨Nat.le_of_ble_eq_true rfl, Nat.le_of_ble_eq_true rfl⟩ (Nat.le_of_ble_eq_true rfl) ⟨by show _ ≤ 600104; omega, by show _ ≤ 7301314; omega⟩ ?_
        rintro _ _ ⟨⟨p1, rfl, p1l, p1h⟩, rfl⟩
        refine r_iload dL_law_273 rfl ?_
        refine r_bipush dL_law_275 rfl ?_
        refine r_ishrA dL_law_277 (fun wp2 hwp2 => ?_)
        refine r_bipush dL_law_278 rfl ?_
        refine r_callS (tL_part G _ wp2 11 (by decide)) dL_law_280 svL_part q369 rfl ⟨Nat.le_of_ble_eq_true rfl, Nat.le_of_ble_eq_true rfl⟩ (Nat.le_of_ble_eq_true rfl) ⟨by show _ ≤ 600104; omega, by show _ ≤ 7301314; omega⟩ ?_
        rintro _ _ ⟨⟨p2, rfl, p2l, p2h⟩, rfl⟩
        refine r_iconst dL_law_283 ?_
        refine r_iconst dL_law_284 ?_
        refine r_kC hD3 EL_ok (tL_call0 G _ p1 p2 0 0 hD3.1 hD3.2.1 (by omega)) (z := cvl (oSize (u (a + n), hs u a n, al_5.2.2) p1 p2) (-12) (-13)) (rfl) (rfl) dL_law_285 q378 q0 q379 pd_call q377 rfl ⟨Nat.le_of_ble_eq_true rfl, Nat.le_of_ble_eq_true rfl⟩ (Nat.le_of_ble_eq_true rfl) ⟨by show _ ≤ 600104; omega, by show _ ≤ 7301314; omega⟩ (fun s7 hD7 => ?_)
        refine r_goto (tgt := 394) dL_law_288 (by decide) ?_
        exact law_tail i hi hA9 hD7 (st_gen (by decide) (st_size hO.1) oSize_x) hn hN hact hw9 hwa9 (by omega) (by omega) (fun s' u' a' n' acts' h1 h2 => r_widen (by omega) (by omega) (kk s' u' a' n' acts' h1 h2))
    · skip
      refine r_aload_n dL_law_208 rfl rfl ?_
      refine r_iconst dL_law_209 ?_
      refine r_iload dL_law_210 rfl ?_
      refine r_iconst dL_law_212 ?_
      refine r_ishrA dL_law_213 (fun wp1 hwp1 => ?_)
      refine r_bipush dL_law_214 rfl ?_
      refine r_callS (tL_part G _ wp1 53 (by decide)) dL_law_216 svL_part q369 rfl ⟨Nat.le_of_ble_eq_true rfl, Nat.le_of_ble_eq_true rfl⟩ (Nat.le_of_ble_eq_true rfl) ⟨by show _ ≤ 600104; omega, by show _ ≤ 7301314; omega⟩ ?_
      rintro _ _ ⟨⟨p1, rfl, p1l, p1h⟩, rfl⟩
      refine r_iload dL_law_219 rfl ?_
      refine r_bipush dL_law_221 rfl ?_
      refine r_ishrA dL_law_223 (fun wp2 hwp2 => ?_)
      refine r_bipush dL_law_224 rfl ?_
      refine r_callS (tL_part G _ wp2 10 (by decide)) dL_law_226 svL_part q369 rfl ⟨Nat.le_of_ble_eq_true rfl, Nat.le_of_ble_eq_true rfl⟩ (Nat.le_of_ble_eq_true rfl) ⟨by show _ ≤ 600104; omega, by show _ ≤ 7301314; omega⟩ ?_
      rintro _ _ ⟨⟨p2, rfl, p2l, p2h⟩, rfl⟩
      refine r_iload dL_law_229 rfl ?_
      refine r_bipush dL_law_231 rfl ?_
      refine r_ishrA dL_law_233 (fun wp3 hwp3 => ?_)
      refine r_bipush dL_law_234 rfl ?_
      refine r_callS (tL_part G _ wp3 50 (by decide)) dL_law_236 svL_part q369 rfl ⟨Nat.le_of_ble_eq_true rfl, Nat.le_of_ble_eq_true rfl⟩ (Nat.le_of_ble_eq_true rfl) ⟨by show _ ≤ 600104; omega, by show _ ≤ 7301314; omega⟩ ?_
      rintro _ _ ⟨⟨p3, rfl, p3l, p3h⟩, rfl⟩
      refine r_iload dL_law_239 rfl ?_
      refine r_bipush dL_law_241 rfl ?_
      refine r_ishrA dL_law_243 (fun wp4 hwp4 => ?_)
      refine r_bipush dL_law_244 rfl ?_
      refine r_callS (tL_part G _ wp4 11 (by decide)) dL_law_246 svL_part q369 rfl ⟨Nat.le_of_ble_eq_true rfl, Nat.le_of_ble_eq_true rfl⟩ (Nat.le_of_ble_eq_true rfl) ⟨by show _ ≤ 600104; omega, by show _ ≤ 7301314; omega⟩ ?_
      rintro _ _ ⟨⟨p4, rfl, p4l, p4h⟩, rfl⟩
      refine r_kC hD3 EL_ok (tL_call2 G _ p1 p2 p3 p4 hD3.1 hD3.2.1 (by omega)) (z := cvl (oPoints (u (a + n), hs u a n, al_5.2.2) p1 p2 p3 p4) (-12) (-13)) (rfl) (rfl) dL_law_249 q378 q0 q379 pd_call q377 rfl ⟨Nat.le_of_ble_eq_true rfl, Nat.le_of_ble_eq_true rfl⟩ (Nat.le_of_ble_eq_true rfl) ⟨by show _ ≤ 600104; omega, by show _ ≤ 7301314; omega⟩ (fun s6 hD6 => ?_)
      refine r_goto (tgt := 394) dL_law_252 (by decide) ?_
      exact law_tail i hi hA9 hD6 (st_gen (by decide) (st_points) oPoints_x) hn hN hact hw9 hwa9 (by omega) (by omega) (fun s' u' a' n' acts' h1 h2 => r_widen (by omega) (by omega) (kk s' u' a' n' acts' h1 h2))
  · skip
    refine r_aload_n dL_law_166 rfl rfl ?_
    refine r_iconst dL_law_167 ?_
    refine r_iload dL_law_168 rfl ?_
    refine r_iload dL_law_170 rfl ?_
    refine r_iload dL_law_172 rfl ?_
    refine r_bipush dL_law_174 rfl ?_
    refine r_ishrA dL_law_176 (fun w3 hw3 => ?_)
    refine r_bipush dL_law_177 rfl ?_
    refine r_callS (tL_part G _ w3 9 (by decide)) dL_law_179 svL_part q369 rfl ⟨Nat.le_of_ble_eq_true rfl, Nat.le_of_ble_eq_true rfl⟩ (Nat.le_of_ble_eq_true rfl) ⟨by show _ ≤ 600104; omega, by show _ ≤ 7301314; omega⟩ ?_
    rintro _ _ ⟨⟨p1, rfl, p1l, p1h⟩, rfl⟩
    refine r_iload dL_law_182 rfl ?_
    refine r_bipush dL_law_184 rfl ?_
    refine r_ishrA dL_law_186 (fun w4 hw4 => ?_)
    refine r_sipush dL_law_187 rfl ?_
    refine r_callS (tL_part G _ w4 1300 (by decide)) dL_law_190 svL_part q369 rfl ⟨Nat.le_of_ble_eq_true rfl, Nat.le_of_ble_eq_true rfl⟩ (Nat.le_of_ble_eq_true rfl) ⟨by show _ ≤ 600104; omega, by show _ ≤ 7301314; omega⟩ ?_
    rintro _ _ ⟨⟨p2, rfl, p2l, p2h⟩, rfl⟩
    refine r_imul dL_law_193 ?_
    refine r_iconst dL_law_194 ?_
    have hm : 0 ≤ p1 * p2 ∧ p1 * p2 ≤ 20000 := ⟨Int.mul_nonneg p1l p2l, Int.le_trans (Int.mul_le_mul (show p1 ≤ 8 by omega) (show p2 ≤ 1299 by omega) p2l (by decide)) (by decide)⟩
    refine r_kC hD3 EL_ok (tL_call1 G _ za zb (p1 * p2) 0 hD3.1 hD3.2.1 (by omega)) (z := cvl (oPut (u (a + n), hs u a n, al_5.2.2) za zb (p1 * p2)) (-11) (-12)) (rfl) (rfl) dL_law_195 q378 q0 q379 pd_call q377 rfl ⟨Nat.le_of_ble_eq_true rfl, Nat.le_of_ble_eq_true rfl⟩ (Nat.le_of_ble_eq_true rfl) ⟨by show _ ≤ 600104; omega, by show _ ≤ 7301314; omega⟩ (fun s5 hD5 => ?_)
    refine r_goto (tgt := 394) dL_law_198 (by decide) ?_
    exact law_tail i hi hA9 hD5 (st_gen (by decide) (st_put hO.1) oPut_x) hn hN hact hw9 hwa9 (by omega) (by omega) (fun s' u' a' n' acts' h1 h2 => r_widen (by omega) (by omega) (kk s' u' a' n' acts' h1 h2))
