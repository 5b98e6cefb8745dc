variable {Ω : List Ob}

def fo (f : Int → Int → Int) (h : Int) : Nat → Int
  | 0 => h
  | j + 1 => f (j : Int) (fo f h j)
def g1 (x : St) (k h : Int) : Int := 31 * h + bm (cnF x 0 k)
def g2 (x : St) (k h : Int) : Int := 31 * h + bm (if k % 10 < x.2.1 then nT x (10 * (k / 10) + k % 10) else 7)
def g3 (x : St) (k h : Int) : Int := 31 * h + bm (nW x k)
def g4 (x : St) (k h : Int) : Int := 31 * h + 3 * bm (tlF x k) + bm (if k < 3 then lkW x k else (x.1 + x.2.1) * hvB x.1)
def sn1 (x : St) : Int := fo (g1 x) 331 8
def sn2 (x : St) : Int := fo (g2 x) (sn1 x) (10 * x.1).toNat
def sn3 (x : St) : Int := fo (g3 x) (sn2 x) x.2.2.1.toNat
/-- what the law sees of a state -/
def seenF (x : St) : Int := fo (g4 x) (sn3 x) 4
theorem cnF_7 {x : St} {hl k : Int} (h : 0 ≤ k ∧ k ≤ 7) : cnF x hl k = cnF x 0 k := by
  unfold cnF
  repeat' split
  all_goals first | rfl | omega
theorem oCount_n {A : Ab} {k : Int} (h : 0 ≤ k ∧ k ≤ 7) : oCount A k = (0, cnF A.1 0 k, A) := by
  unfold oCount
  rw [if_pos (by omega), cnF_7 h]
theorem oCount_0 {A : Ab} : oCount A 0 = (0, A.1.1, A) := rfl
theorem oCount_1 {A : Ab} : oCount A 1 = (0, A.1.2.1, A) := rfl
theorem oCount_2 {A : Ab} : oCount A 2 = (0, A.1.2.2.1, A) := rfl
theorem oCount_8 {A : Ab} : oCount A 8 = (0, (A.2.1.length : Int), A) := rfl
theorem oCell_y {A : Ab} {r c : Int} (h : (0 ≤ r ∧ r < A.1.1) ∧ (0 ≤ c ∧ c < A.1.2.1)) : oCell A r c = (0, nT A.1 (10 * r + c), A) := if_pos h
theorem oWeight_y {A : Ab} {i : Int} (h : 0 ≤ i ∧ i < A.1.2.2.1) : oWeight A i = (0, nW A.1 i, A) := if_pos h
theorem oWitness_y {A : Ab} {k : Int} (h : 0 ≤ k ∧ k ≤ 3) : oWitness A k = (0, tlF A.1 k, A) := if_pos h
theorem oLooks_y {A : Ab} {w : Int} (h : 0 ≤ w ∧ w ≤ 2) : oLooks A w = (0, lkW A.1 w, A) := if_pos h

set_option maxHeartbeats 1000000 in
set_option maxRecDepth 100000 in
theorem tL_seen (G : GT) (σ : Sg)  {A : Ab} (hci : CI σ) (ha : absC σ = A) : CtY G mL_seen 18 340 2040 false false (SH Ω) (SH Ω) [Rf G 0] σ (YP σ (Lg (seenF A.1)) A) := by
  obtain ⟨P, hP⟩ : ∃ P : Option Value → Sg → Prop, P = (YP σ (Lg (seenF A.1)) A) := ⟨_, rfl⟩
  rw [← hP]
  refine cty_of (lv := [(0, Rf G 0)]) (by decide +kernel) (Nat.le_of_ble_eq_true rfl) rfl ?_
  have hD : Done σ σ A := Done.rf hci ha
  have hO := hD.ok
  obtain ⟨⟨hR, hC, hW, hT, hTz, hw, hwz⟩, hO2⟩ := hO
  have L120 : ∀ (fu i : Nat) (s : Sg), i + fu = 4 → Done σ s A → Rn G mL_seen (rmD 18 340 2040) (EV G) (Zn G false (SH Ω) P 340 2040) false (SH Ω) (330 + 2 * i) (6 * (330 + 2 * i)) 120 [(0, Rf G 0), (1, Lg (fo (g4 A.1) (sn3 A.1) i)), (3, I (i : Int))] [] s := by
    intro fu
    induction fu with
    | zero =>
      intro i s hi hD
      refine r_iload_n dL_seen_120 rfl rfl ?_
      refine r_iconst dL_seen_121 ?_
      refine r_icmp_ge (tgt := 167) dL_seen_122 (by decide) (by omega) (fun hb1 => ?_) (fun hb1 => absurd hb1 (by omega))
      refine r_lload_n dL_seen_167 rfl rfl ?_
      obtain rfl : i = 4 := by omega
      refine r_widen (k2 := 340) (n2 := 2040) (by omega) (by omega) ?_
      exact r_lret dL_seen_168 rfl (by rw [hP]; exact ⟨rfl, hD⟩)
    | succ fu ih =>
      intro i s hi hD
      refine r_iload_n dL_seen_120 rfl rfl ?_
      refine r_iconst dL_seen_121 ?_
      refine r_icmp_ge (tgt := 167) dL_seen_122 (by decide) (by omega) (fun hb1 => absurd hb1 (by omega)) (fun hb1 => ?_)
      refine r_ldc2 (z := 31) dL_seen_125 q533 ?_
      refine r_lload_n dL_seen_128 rfl rfl ?_
      refine r_lmul dL_seen_129 ?_
      refine r_ldc2 (z := 3) dL_seen_130 q534 ?_
      refine r_aload_n dL_seen_133 rfl rfl ?_
      refine r_iload_n dL_seen_134 rfl rfl ?_
      refine r_kX hD EV_ok (uX_witness G _ (i : Int) hD.1 hD.2.1 (by omega)) (oWitness_y (by omega)) dL_seen_135 svX7_witness q467 sh0 (ci := 7) rfl rfl rfl ⟨Nat.le_of_ble_eq_true rfl, Nat.le_of_ble_eq_true rfl⟩ (Nat.le_of_ble_eq_true rfl) ⟨by simp only [rmD]; omega, by simp only [rmD]; omega⟩ (fun s2 hD2 => ?_)
      refine r_i2lb dL_seen_138 ?_
      refine r_lmul dL_seen_139 ?_
      refine r_ladd dL_seen_140 ?_
      refine r_iload_n dL_seen_141 rfl rfl ?_
      refine r_iconst dL_seen_142 ?_
      refine r_icmp_ge (tgt := 154) dL_seen_143 (by decide) (by omega) (fun hb3 => ?_) (fun hb3 => ?_)
      · skip
        refine r_aload_n dL_seen_154 rfl rfl ?_
        refine r_kO hD2 (uX_bound G _ hD2.1 hD2.2.1) (rfl) dL_seen_155 svX7_bound q535 sh0 (ci := 7) rfl rfl rfl ⟨Nat.le_of_ble_eq_true rfl, Nat.le_of_ble_eq_true rfl⟩ (Nat.le_of_ble_eq_true rfl) ⟨by simp only [rmD]; omega, by simp only [rmD]; omega⟩ (fun s4 hD4 => ?_)
        refine r_i2lb dL_seen_158 ?_
        refine r_ladd dL_seen_159 ?_
        refine r_lstore_n (lv' := [(0, Rf G 0), (1, Lg (((31 * (fo (g4 A.1) (sn3 A.1) i)) + (3 * (bm (tlF A.1 (i : Int))))) + (bm ((A.1.1 + A.1.2.1) * hvB A.1.1)))), (3, I (i : Int))]) dL_seen_160 rfl (Nat.le_of_ble_eq_true rfl) rfl ?_
        refine r_iinc (lv' := [(0, Rf G 0), (1, Lg (((31 * (fo (g4 A.1) (sn3 A.1) i)) + (3 * (bm (tlF A.1 (i : Int))))) + (bm ((A.1.1 + A.1.2.1) * hvB A.1.1)))), (3, I ((i : Int) + 1))]) dL_seen_161 (Nat.le_of_ble_eq_true rfl) rfl rfl ?_
        refine r_goto (tgt := 120) dL_seen_164 (by decide) ?_
        rw [show ((31 * (fo (g4 A.1) (sn3 A.1) i)) + (3 * (bm (tlF A.1 (i : Int))))) + (bm ((A.1.1 + A.1.2.1) * hvB A.1.1)) = fo (g4 A.1) (sn3 A.1) (i + 1) from by show _ = 31 * _ + 3 * bm _ + bm (if _ then _ else _); rw [if_neg (by omega)], show (i : Int) + 1 = ((i + 1 : Nat) : Int) from rfl]
        refine r_widen (k2 := 330 + 2 * (i + 1)) (n2 := 6 * (330 + 2 * (i + 1))) (by omega) (by omega) ?_
        exact ih (i + 1) s4 (by omega) hD4
      · skip
        refine r_aload_n dL_seen_146 rfl rfl ?_
        refine r_iload_n dL_seen_147 rfl rfl ?_
        refine r_kX hD2 EV_ok (uX_looks G _ (i : Int) hD2.1 hD2.2.1 (by omega)) (oLooks_y (by omega)) dL_seen_148 svX7_looks q463 sh0 (ci := 7) rfl rfl rfl ⟨Nat.le_of_ble_eq_true rfl, Nat.le_of_ble_eq_true rfl⟩ (Nat.le_of_ble_eq_true rfl) ⟨by simp only [rmD]; omega, by simp only [rmD]; omega⟩ (fun s4 hD4 => ?_)
        refine r_goto (tgt := 158) dL_seen_151 (by decide) ?_
        refine r_i2lb dL_seen_158 ?_
        refine r_ladd dL_seen_159 ?_
        refine r_lstore_n (lv' := [(0, Rf G 0), (1, Lg (((31 * (fo (g4 A.1) (sn3 A.1) i)) + (3 * (bm (tlF A.1 (i : Int))))) + (bm (lkW A.1 (i : Int))))), (3, I (i : Int))]) dL_seen_160 rfl (Nat.le_of_ble_eq_true rfl) rfl ?_
        refine r_iinc (lv' := [(0, Rf G 0), (1, Lg (((31 * (fo (g4 A.1) (sn3 A.1) i)) + (3 * (bm (tlF A.1 (i : Int))))) + (bm (lkW A.1 (i : Int))))), (3, I ((i : Int) + 1))]) dL_seen_161 (Nat.le_of_ble_eq_true rfl) rfl rfl ?_
        refine r_goto (tgt := 120) dL_seen_164 (by decide) ?_
        rw [show ((31 * (fo (g4 A.1) (sn3 A.1) i)) + (3 * (bm (tlF A.1 (i : Int))))) + (bm (lkW A.1 (i : Int))) = fo (g4 A.1) (sn3 A.1) (i + 1) from by show _ = 31 * _ + 3 * bm _ + bm (if _ then _ else _); rw [if_pos (by omega)], show (i : Int) + 1 = ((i + 1 : Nat) : Int) from rfl]
        refine r_widen (k2 := 330 + 2 * (i + 1)) (n2 := 6 * (330 + 2 * (i + 1))) (by omega) (by omega) ?_
        exact ih (i + 1) s4 (by omega) hD4
  have L90 : ∀ (fu i : Nat) (s : Sg), (i : Int) + (fu : Int) = A.1.2.2.1 → Done σ s A → Rn G mL_seen (rmD 18 340 2040) (EV G) (Zn G false (SH Ω) P 340 2040) false (SH Ω) (309 + 2 * i) (6 * (309 + 2 * i)) 90 [(0, Rf G 0), (1, Lg (fo (g3 A.1) (sn2 A.1) i)), (3, I (i : Int))] [] s := by
    intro fu
    induction fu with
    | zero =>
      intro i s hi hD
      refine r_iload_n dL_seen_90 rfl rfl ?_
      refine r_aload_n dL_seen_91 rfl rfl ?_
      refine r_iconst dL_seen_92 ?_
      refine r_kX hD EV_ok (uX_count G _ 2 hD.1 hD.2.1 (by decide)) (oCount_2) dL_seen_93 svX7_count q349 sh0 (ci := 7) rfl rfl rfl ⟨Nat.le_of_ble_eq_true rfl, Nat.le_of_ble_eq_true rfl⟩ (Nat.le_of_ble_eq_true rfl) ⟨by simp only [rmD]; omega, by simp only [rmD]; omega⟩ (fun s1 hD1 => ?_)
      refine r_icmp_ge (tgt := 118) dL_seen_96 (by decide) (by omega) (fun hb2 => ?_) (fun hb2 => absurd hb2 (by omega))
      refine r_iconst dL_seen_118 ?_
      refine r_istore_n (lv' := [(0, Rf G 0), (1, Lg (fo (g3 A.1) (sn2 A.1) i)), (3, I 0)]) dL_seen_119 rfl (Nat.le_of_ble_eq_true rfl) rfl ?_
      obtain rfl : i = A.1.2.2.1.toNat := by omega
      rw [show fo (g3 A.1) (sn2 A.1) A.1.2.2.1.toNat = fo (g4 A.1) (sn3 A.1) 0 from rfl, show (0 : Int) = ((0 : Nat) : Int) from rfl]
      refine r_widen (k2 := 330 + 2 * 0) (n2 := 6 * (330 + 2 * 0)) (by omega) (by omega) ?_
      exact L120 4 0 s1 (by first | rfl | omega) hD1
    | succ fu ih =>
      intro i s hi hD
      refine r_iload_n dL_seen_90 rfl rfl ?_
      refine r_aload_n dL_seen_91 rfl rfl ?_
      refine r_iconst dL_seen_92 ?_
      refine r_kX hD EV_ok (uX_count G _ 2 hD.1 hD.2.1 (by decide)) (oCount_2) dL_seen_93 svX7_count q349 sh0 (ci := 7) rfl rfl rfl ⟨Nat.le_of_ble_eq_true rfl, Nat.le_of_ble_eq_true rfl⟩ (Nat.le_of_ble_eq_true rfl) ⟨by simp only [rmD]; omega, by simp only [rmD]; omega⟩ (fun s1 hD1 => ?_)
      refine r_icmp_ge (tgt := 118) dL_seen_96 (by decide) (by omega) (fun hb2 => absurd hb2 (by omega)) (fun hb2 => ?_)
      refine r_ldc2 (z := 31) dL_seen_99 q533 ?_
      refine r_lload_n dL_seen_102 rfl rfl ?_
      refine r_lmul dL_seen_103 ?_
      refine r_aload_n dL_seen_104 rfl rfl ?_
      refine r_iload_n dL_seen_105 rfl rfl ?_
      refine r_kX hD1 EV_ok (uX_weight G _ (i : Int) hD1.1 hD1.2.1 (by omega)) (oWeight_y (by omega)) dL_seen_106 svX7_weight q475 sh0 (ci := 7) rfl rfl rfl ⟨Nat.le_of_ble_eq_true rfl, Nat.le_of_ble_eq_true rfl⟩ (Nat.le_of_ble_eq_true rfl) ⟨by simp only [rmD]; omega, by simp only [rmD]; omega⟩ (fun s3 hD3 => ?_)
      refine r_i2lb dL_seen_109 ?_
      refine r_ladd dL_seen_110 ?_
      refine r_lstore_n (lv' := [(0, Rf G 0), (1, Lg ((31 * (fo (g3 A.1) (sn2 A.1) i)) + (bm (nW A.1 (i : Int))))), (3, I (i : Int))]) dL_seen_111 rfl (Nat.le_of_ble_eq_true rfl) rfl ?_
      refine r_iinc (lv' := [(0, Rf G 0), (1, Lg ((31 * (fo (g3 A.1) (sn2 A.1) i)) + (bm (nW A.1 (i : Int))))), (3, I ((i : Int) + 1))]) dL_seen_112 (Nat.le_of_ble_eq_true rfl) rfl rfl ?_
      refine r_goto (tgt := 90) dL_seen_115 (by decide) ?_
      rw [show (31 * (fo (g3 A.1) (sn2 A.1) i)) + (bm (nW A.1 (i : Int))) = fo (g3 A.1) (sn2 A.1) (i + 1) from rfl, show (i : Int) + 1 = ((i + 1 : Nat) : Int) from rfl]
      refine r_widen (k2 := 309 + 2 * (i + 1)) (n2 := 6 * (309 + 2 * (i + 1))) (by omega) (by omega) ?_
      exact ih (i + 1) s3 (by omega) hD3
  have L33 : ∀ (fu i : Nat) (s : Sg), (i : Int) + (fu : Int) = 10 * A.1.1 → Done σ s A → Rn G mL_seen (rmD 18 340 2040) (EV G) (Zn G false (SH Ω) P 340 2040) false (SH Ω) (8 + 3 * i) (6 * (8 + 3 * i)) 33 [(0, Rf G 0), (1, Lg (fo (g2 A.1) (sn1 A.1) i)), (3, I (i : Int))] [] s := by
    intro fu
    induction fu with
    | zero =>
      intro i s hi hD
      refine r_iload_n dL_seen_33 rfl rfl ?_
      refine r_bipush dL_seen_34 rfl ?_
      refine r_aload_n dL_seen_36 rfl rfl ?_
      refine r_iconst dL_seen_37 ?_
      refine r_kX hD EV_ok (uX_count G _ 0 hD.1 hD.2.1 (by decide)) (oCount_0) dL_seen_38 svX7_count q349 sh0 (ci := 7) rfl rfl rfl ⟨Nat.le_of_ble_eq_true rfl, Nat.le_of_ble_eq_true rfl⟩ (Nat.le_of_ble_eq_true rfl) ⟨by simp only [rmD]; omega, by simp only [rmD]; omega⟩ (fun s1 hD1 => ?_)
      refine r_imul dL_seen_41 ?_
      refine r_icmp_ge (tgt := 88) dL_seen_42 (by decide) (by omega) (fun hb2 => ?_) (fun hb2 => absurd hb2 (by omega))
      refine r_iconst dL_seen_88 ?_
      refine r_istore_n (lv' := [(0, Rf G 0), (1, Lg (fo (g2 A.1) (sn1 A.1) i)), (3, I 0)]) dL_seen_89 rfl (Nat.le_of_ble_eq_true rfl) rfl ?_
      obtain rfl : i = (10 * A.1.1).toNat := by omega
      rw [show fo (g2 A.1) (sn1 A.1) (10 * A.1.1).toNat = fo (g3 A.1) (sn2 A.1) 0 from rfl, show (0 : Int) = ((0 : Nat) : Int) from rfl]
      refine r_widen (k2 := 309 + 2 * 0) (n2 := 6 * (309 + 2 * 0)) (by omega) (by omega) ?_
      exact L90 A.1.2.2.1.toNat 0 s1 (by first | rfl | omega) hD1
    | succ fu ih =>
      intro i s hi hD
      refine r_iload_n dL_seen_33 rfl rfl ?_
      refine r_bipush dL_seen_34 rfl ?_
      refine r_aload_n dL_seen_36 rfl rfl ?_
      refine r_iconst dL_seen_37 ?_
      refine r_kX hD EV_ok (uX_count G _ 0 hD.1 hD.2.1 (by decide)) (oCount_0) dL_seen_38 svX7_count q349 sh0 (ci := 7) rfl rfl rfl ⟨Nat.le_of_ble_eq_true rfl, Nat.le_of_ble_eq_true rfl⟩ (Nat.le_of_ble_eq_true rfl) ⟨by simp only [rmD]; omega, by simp only [rmD]; omega⟩ (fun s1 hD1 => ?_)
      refine r_imul dL_seen_41 ?_
      refine r_icmp_ge (tgt := 88) dL_seen_42 (by decide) (by omega) (fun hb2 => absurd hb2 (by omega)) (fun hb2 => ?_)
      refine r_ldc2 (z := 31) dL_seen_45 q533 ?_
      refine r_lload_n dL_seen_48 rfl rfl ?_
      refine r_lmul dL_seen_49 ?_
      refine r_iload_n dL_seen_50 rfl rfl ?_
      refine r_bipush dL_seen_51 rfl ?_
      refine r_irem dL_seen_53 (by omega) ?_
      refine r_aload_n dL_seen_54 rfl rfl ?_
      refine r_iconst dL_seen_55 ?_
      refine r_kX hD1 EV_ok (uX_count G _ 1 hD1.1 hD1.2.1 (by decide)) (oCount_1) dL_seen_56 svX7_count q349 sh0 (ci := 7) rfl rfl rfl ⟨Nat.le_of_ble_eq_true rfl, Nat.le_of_ble_eq_true rfl⟩ (Nat.le_of_ble_eq_true rfl) ⟨by simp only [rmD]; omega, by simp only [rmD]; omega⟩ (fun s3 hD3 => ?_)
      refine r_icmp_ge (tgt := 77) dL_seen_59 (by decide) (by omega) (fun hb4 => ?_) (fun hb4 => ?_)
      · skip
        refine r_bipush dL_seen_77 rfl ?_
        refine r_i2lb dL_seen_79 ?_
        refine r_ladd dL_seen_80 ?_
        refine r_lstore_n (lv' := [(0, Rf G 0), (1, Lg ((31 * (fo (g2 A.1) (sn1 A.1) i)) + (bm 7))), (3, I (i : Int))]) dL_seen_81 rfl (Nat.le_of_ble_eq_true rfl) rfl ?_
        refine r_iinc (lv' := [(0, Rf G 0), (1, Lg ((31 * (fo (g2 A.1) (sn1 A.1) i)) + (bm 7))), (3, I ((i : Int) + 1))]) dL_seen_82 (Nat.le_of_ble_eq_true rfl) rfl rfl ?_
        refine r_goto (tgt := 33) dL_seen_85 (by decide) ?_
        rw [show (31 * (fo (g2 A.1) (sn1 A.1) i)) + (bm 7) = fo (g2 A.1) (sn1 A.1) (i + 1) from by show _ = 31 * _ + bm (if _ then _ else _); rw [if_neg (by omega)], show (i : Int) + 1 = ((i + 1 : Nat) : Int) from rfl]
        refine r_widen (k2 := 8 + 3 * (i + 1)) (n2 := 6 * (8 + 3 * (i + 1))) (by omega) (by omega) ?_
        exact ih (i + 1) s3 (by omega) hD3
      · skip
        refine r_aload_n dL_seen_62 rfl rfl ?_
        refine r_iload_n dL_seen_63 rfl rfl ?_
        refine r_bipush dL_seen_64 rfl ?_
        refine r_idiv dL_seen_66 (by omega) ?_
        refine r_iload_n dL_seen_67 rfl rfl ?_
        refine r_bipush dL_seen_68 rfl ?_
        refine r_irem dL_seen_70 (by omega) ?_
        refine r_kX hD3 EV_ok (uX_cell G _ ((i : Int) / 10) ((i : Int) % 10) hD3.1 hD3.2.1 (by omega)) (oCell_y (by omega)) dL_seen_71 svX7_cell q454 sh0 (ci := 7) rfl rfl rfl ⟨Nat.le_of_ble_eq_true rfl, Nat.le_of_ble_eq_true rfl⟩ (Nat.le_of_ble_eq_true rfl) ⟨by simp only [rmD]; omega, by simp only [rmD]; omega⟩ (fun s5 hD5 => ?_)
        refine r_goto (tgt := 79) dL_seen_74 (by decide) ?_
        refine r_i2lb dL_seen_79 ?_
        refine r_ladd dL_seen_80 ?_
        refine r_lstore_n (lv' := [(0, Rf G 0), (1, Lg ((31 * (fo (g2 A.1) (sn1 A.1) i)) + (bm (nT A.1 (10 * ((i : Int) / 10) + (i : Int) % 10))))), (3, I (i : Int))]) dL_seen_81 rfl (Nat.le_of_ble_eq_true rfl) rfl ?_
        refine r_iinc (lv' := [(0, Rf G 0), (1, Lg ((31 * (fo (g2 A.1) (sn1 A.1) i)) + (bm (nT A.1 (10 * ((i : Int) / 10) + (i : Int) % 10))))), (3, I ((i : Int) + 1))]) dL_seen_82 (Nat.le_of_ble_eq_true rfl) rfl rfl ?_
        refine r_goto (tgt := 33) dL_seen_85 (by decide) ?_
        rw [show (31 * (fo (g2 A.1) (sn1 A.1) i)) + (bm (nT A.1 (10 * ((i : Int) / 10) + (i : Int) % 10))) = fo (g2 A.1) (sn1 A.1) (i + 1) from by show _ = 31 * _ + bm (if _ then _ else _); rw [if_pos (by omega)], show (i : Int) + 1 = ((i + 1 : Nat) : Int) from rfl]
        refine r_widen (k2 := 8 + 3 * (i + 1)) (n2 := 6 * (8 + 3 * (i + 1))) (by omega) (by omega) ?_
        exact ih (i + 1) s5 (by omega) hD5
  have L6 : ∀ (fu i : Nat) (s : Sg), i + fu = 8 → Done σ s A → Rn G mL_seen (rmD 18 340 2040) (EV G) (Zn G false (SH Ω) P 340 2040) false (SH Ω) (i) (6 * (i)) 6 [(0, Rf G 0), (1, Lg (fo (g1 A.1) 331 i)), (3, I (i : Int))] [] s := by
    intro fu
    induction fu with
    | zero =>
      intro i s hi hD
      refine r_iload_n dL_seen_6 rfl rfl ?_
      refine r_bipush dL_seen_7 rfl ?_
      refine r_icmp_ge (tgt := 31) dL_seen_9 (by decide) (by omega) (fun hb1 => ?_) (fun hb1 => absurd hb1 (by omega))
      refine r_iconst dL_seen_31 ?_
      refine r_istore_n (lv' := [(0, Rf G 0), (1, Lg (fo (g1 A.1) 331 i)), (3, I 0)]) dL_seen_32 rfl (Nat.le_of_ble_eq_true rfl) rfl ?_
      obtain rfl : i = 8 := by omega
      rw [show fo (g1 A.1) 331 8 = fo (g2 A.1) (sn1 A.1) 0 from rfl, show (0 : Int) = ((0 : Nat) : Int) from rfl]
      refine r_widen (k2 := 8 + 3 * 0) (n2 := 6 * (8 + 3 * 0)) (by omega) (by omega) ?_
      exact L33 (10 * A.1.1).toNat 0 s (by first | rfl | omega) hD
    | succ fu ih =>
      intro i s hi hD
      refine r_iload_n dL_seen_6 rfl rfl ?_
      refine r_bipush dL_seen_7 rfl ?_
      refine r_icmp_ge (tgt := 31) dL_seen_9 (by decide) (by omega) (fun hb1 => absurd hb1 (by omega)) (fun hb1 => ?_)
      refine r_ldc2 (z := 31) dL_seen_12 q533 ?_
      refine r_lload_n dL_seen_15 rfl rfl ?_
      refine r_lmul dL_seen_16 ?_
      refine r_aload_n dL_seen_17 rfl rfl ?_
      refine r_iload_n dL_seen_18 rfl rfl ?_
      refine r_kX hD EV_ok (uX_count G _ (i : Int) hD.1 hD.2.1 (by omega)) (oCount_n (by omega)) dL_seen_19 svX7_count q349 sh0 (ci := 7) rfl rfl rfl ⟨Nat.le_of_ble_eq_true rfl, Nat.le_of_ble_eq_true rfl⟩ (Nat.le_of_ble_eq_true rfl) ⟨by simp only [rmD]; omega, by simp only [rmD]; omega⟩ (fun s2 hD2 => ?_)
      refine r_i2lb dL_seen_22 ?_
      refine r_ladd dL_seen_23 ?_
      refine r_lstore_n (lv' := [(0, Rf G 0), (1, Lg ((31 * (fo (g1 A.1) 331 i)) + (bm (cnF A.1 0 (i : Int))))), (3, I (i : Int))]) dL_seen_24 rfl (Nat.le_of_ble_eq_true rfl) rfl ?_
      refine r_iinc (lv' := [(0, Rf G 0), (1, Lg ((31 * (fo (g1 A.1) 331 i)) + (bm (cnF A.1 0 (i : Int))))), (3, I ((i : Int) + 1))]) dL_seen_25 (Nat.le_of_ble_eq_true rfl) rfl rfl ?_
      refine r_goto (tgt := 6) dL_seen_28 (by decide) ?_
      rw [show (31 * (fo (g1 A.1) 331 i)) + (bm (cnF A.1 0 (i : Int))) = fo (g1 A.1) 331 (i + 1) from rfl, show (i : Int) + 1 = ((i + 1 : Nat) : Int) from rfl]
      refine r_widen (k2 := (i + 1)) (n2 := 6 * ((i + 1))) (by omega) (by omega) ?_
      exact ih (i + 1) s2 (by omega) hD2
  refine r_ldc2 (z := 331) dL_seen_0 q532 ?_
  refine r_lstore_n (lv' := [(0, Rf G 0), (1, Lg 331)]) dL_seen_3 rfl (Nat.le_of_ble_eq_true rfl) rfl ?_
  refine r_iconst dL_seen_4 ?_
  refine r_istore_n (lv' := [(0, Rf G 0), (1, Lg 331), (3, I 0)]) dL_seen_5 rfl (Nat.le_of_ble_eq_true rfl) rfl ?_
  rw [show (331 : Int) = fo (g1 A.1) 331 0 from rfl, show (0 : Int) = ((0 : Nat) : Int) from rfl]
  exact L6 8 0 σ rfl hD
