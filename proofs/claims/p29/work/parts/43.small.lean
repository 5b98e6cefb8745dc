variable {Ω : List Ob}
def as_1 : Ab := (oSize A00 2 2).2.2
def as_2 : Ab := (oPut as_1 0 0 5).2.2
def as_3 : Ab := (oPut as_2 0 1 3).2.2
def as_4 : Ab := (oPut as_3 1 0 1).2.2
def as_5 : Ab := (oPut as_4 1 1 2).2.2
def as_6 : Ab := (oFind as_5 0).2.2
def as_7 : Ab := (oKeep as_6 0).2.2
def as_8 : Ab := (oMend as_7).2.2
def as_9 : Ab := (oFind as_8 1).2.2
def as_10 : Ab := (oFind as_9 2).2.2
def as_11 : Ab := (oMend as_10).2.2
def as_12 : Ab := (oUndo as_11).2.2
def as_13 : Ab := (oPut as_12 1 1 9999).2.2
def as_14 : Ab := (oMend as_13).2.2
def as_15 : Ab := (oPut as_14 1 0 9999).2.2
def as_16 : Ab := (oMend as_15).2.2
def as_17 : Ab := (oPut as_16 0 0 3).2.2
def as_18 : Ab := (oSize as_17 3 4).2.2
def as_19 : Ab := (oPoints as_18 0 2 0 1).2.2
def as_20 : Ab := (oPoints as_19 4 0 2 1).2.2
def as_21 : Ab := (oSize as_20 1 10).2.2
def as_22 : Ab := (oPoints as_21 0 0 50 9).2.2
def as_23 : Ab := (oSize as_22 2 10).2.2
def as_24 : Ab := (oBack as_23 0).2.2
set_option maxHeartbeats 1000000 in
set_option maxRecDepth 100000 in
theorem as_p0 (G : GT) {P : Option Value → Sg → Prop} (hP : ∀ s, P (some (I 1)) s) (σ0 σ : Sg) (hD : Done σ0 σ A00) (kk : ∀ s : Sg, Done σ0 s A00 → Rn G mL_small (rmD 23 2100 14000) (EV G) (Zn G false SH0 P 2100 14000) false SH0 52 1656 82 [(0, Rf G 0)] [] s) : Rn G mL_small (rmD 23 2100 14000) (EV G) (Zn G false SH0 P 2100 14000) false SH0 46 1620 8 [(0, Rf G 0)] [] σ := by
  refine r_aload_n dL_small_8 rfl rfl ?_
  refine r_bipush dL_small_9 rfl ?_
  refine r_iconst dL_small_11 ?_
  refine r_iconst dL_small_12 ?_
  refine r_iconst dL_small_13 ?_
  refine r_iconst dL_small_14 ?_
  refine r_kC hD EV_ok (tL_call10 G _ 0 0 0 0 hD.1 hD.2.1) (z := (-13)) (by decide +kernel) (oUndo_x (by decide +kernel)) dL_small_15 q378 q0 q379 pd_call q377 rfl ⟨Nat.le_of_ble_eq_true rfl, Nat.le_of_ble_eq_true rfl⟩ (Nat.le_of_ble_eq_true rfl) ⟨Nat.le_of_ble_eq_true rfl, Nat.le_of_ble_eq_true rfl⟩ (fun s1 hD1 => ?_)
  refine r_bipush dL_small_18 rfl ?_
  refine r_icmp_neE (tgt := 188) dL_small_20 (by decide) (rfl) ?_
  refine r_aload_n dL_small_23 rfl rfl ?_
  refine r_bipush dL_small_24 rfl ?_
  refine r_iconst dL_small_26 ?_
  refine r_iconst dL_small_27 ?_
  refine r_iconst dL_small_28 ?_
  refine r_iconst dL_small_29 ?_
  refine r_kC hD1 EV_ok (tL_call9 G _ 1 0 0 0 hD1.1 hD1.2.1 (by decide)) (z := (-13)) (by decide +kernel) (oBack_x (by decide +kernel)) dL_small_30 q378 q0 q379 pd_call q377 rfl ⟨Nat.le_of_ble_eq_true rfl, Nat.le_of_ble_eq_true rfl⟩ (Nat.le_of_ble_eq_true rfl) ⟨Nat.le_of_ble_eq_true rfl, Nat.le_of_ble_eq_true rfl⟩ (fun s2 hD2 => ?_)
  refine r_bipush dL_small_33 rfl ?_
  refine r_icmp_neE (tgt := 188) dL_small_35 (by decide) (rfl) ?_
  refine r_aload_n dL_small_38 rfl rfl ?_
  refine r_iconst dL_small_39 ?_
  refine r_iconst dL_small_40 ?_
  refine r_iconst dL_small_41 ?_
  refine r_iconst dL_small_42 ?_
  refine r_iconst dL_small_43 ?_
  refine r_kC hD2 EV_ok (tL_call5 G _ 0 0 0 0 hD2.1 hD2.2.1) (z := (-13)) (by decide +kernel) (oUnweigh_x (by decide +kernel)) dL_small_44 q378 q0 q379 pd_call q377 rfl ⟨Nat.le_of_ble_eq_true rfl, Nat.le_of_ble_eq_true rfl⟩ (Nat.le_of_ble_eq_true rfl) ⟨Nat.le_of_ble_eq_true rfl, Nat.le_of_ble_eq_true rfl⟩ (fun s3 hD3 => ?_)
  refine r_bipush dL_small_47 rfl ?_
  refine r_icmp_neE (tgt := 188) dL_small_49 (by decide) (rfl) ?_
  refine r_aload_n dL_small_52 rfl rfl ?_
  refine r_iconst dL_small_53 ?_
  refine r_kX hD3 EV_ok (uX_looks G _ 0 hD3.1 hD3.2.1 (by decide)) (mk3 (z := 16) ⟨by decide +kernel, by decide +kernel⟩ oLooks_A) dL_small_54 svX7_looks q463 sh0 (ci := 7) rfl rfl rfl ⟨Nat.le_of_ble_eq_true rfl, Nat.le_of_ble_eq_true rfl⟩ (Nat.le_of_ble_eq_true rfl) ⟨Nat.le_of_ble_eq_true rfl, Nat.le_of_ble_eq_true rfl⟩ (fun s4 hD4 => ?_)
  refine r_bipush dL_small_57 rfl ?_
  refine r_icmp_neE (tgt := 188) dL_small_59 (by decide) (rfl) ?_
  refine r_aload_n dL_small_62 rfl rfl ?_
  refine r_iconst dL_small_63 ?_
  refine r_kX hD4 EV_ok (uX_looks G _ 1 hD4.1 hD4.2.1 (by decide)) (mk3 (z := 13) ⟨by decide +kernel, by decide +kernel⟩ oLooks_A) dL_small_64 svX7_looks q463 sh0 (ci := 7) rfl rfl rfl ⟨Nat.le_of_ble_eq_true rfl, Nat.le_of_ble_eq_true rfl⟩ (Nat.le_of_ble_eq_true rfl) ⟨Nat.le_of_ble_eq_true rfl, Nat.le_of_ble_eq_true rfl⟩ (fun s5 hD5 => ?_)
  refine r_bipush dL_small_67 rfl ?_
  refine r_icmp_neE (tgt := 188) dL_small_69 (by decide) (rfl) ?_
  refine r_aload_n dL_small_72 rfl rfl ?_
  refine r_iconst dL_small_73 ?_
  refine r_kX hD5 EV_ok (uX_looks G _ 2 hD5.1 hD5.2.1 (by decide)) (mk3 (z := 18) ⟨by decide +kernel, by decide +kernel⟩ oLooks_A) dL_small_74 svX7_looks q463 sh0 (ci := 7) rfl rfl rfl ⟨Nat.le_of_ble_eq_true rfl, Nat.le_of_ble_eq_true rfl⟩ (Nat.le_of_ble_eq_true rfl) ⟨Nat.le_of_ble_eq_true rfl, Nat.le_of_ble_eq_true rfl⟩ (fun s6 hD6 => ?_)
  refine r_bipush dL_small_77 rfl ?_
  refine r_icmp_neE (tgt := 188) dL_small_79 (by decide) (rfl) ?_
  refine r_widen (k2 := 52) (n2 := 1656) (Nat.le_of_ble_eq_true rfl) (Nat.le_of_ble_eq_true rfl) ?_
  exact kk _ hD6
set_option maxHeartbeats 1000000 in
set_option maxRecDepth 100000 in
theorem as_p1 (G : GT) {P : Option Value → Sg → Prop} (hP : ∀ s, P (some (I 1)) s) (σ0 σ : Sg) (hD : Done σ0 σ A00) (kk : ∀ s : Sg, Done σ0 s A00 → Rn G mL_small (rmD 23 2100 14000) (EV G) (Zn G false SH0 P 2100 14000) false SH0 935 6954 137 [(0, Rf G 0)] [] s) : Rn G mL_small (rmD 23 2100 14000) (EV G) (Zn G false SH0 P 2100 14000) false SH0 52 1656 82 [(0, Rf G 0)] [] σ := by
  refine r_aload_n dL_small_82 rfl rfl ?_
  refine r_kO hD (uX_bound G _ hD.1 hD.2.1) (mk3 (z := 24) ⟨by decide +kernel, by decide +kernel⟩ oBound_A) dL_small_83 svX7_bound q535 sh0 (ci := 7) rfl rfl rfl ⟨Nat.le_of_ble_eq_true rfl, Nat.le_of_ble_eq_true rfl⟩ (Nat.le_of_ble_eq_true rfl) ⟨Nat.le_of_ble_eq_true rfl, Nat.le_of_ble_eq_true rfl⟩ (fun s1 hD1 => ?_)
  refine r_bipush dL_small_86 rfl ?_
  refine r_icmp_neE (tgt := 188) dL_small_88 (by decide) (rfl) ?_
  refine r_aload_n dL_small_91 rfl rfl ?_
  refine r_kH hD1 (tX7_halfShare G _ hD1.1) (x := (4605493568939753472 : UInt64)) (by decide +kernel) dL_small_92 svX7_halfShare q553 sh0 (ci := 7) rfl rfl rfl ⟨Nat.le_of_ble_eq_true rfl, Nat.le_of_ble_eq_true rfl⟩ (Nat.le_of_ble_eq_true rfl) ⟨Nat.le_of_ble_eq_true rfl, Nat.le_of_ble_eq_true rfl⟩ (fun s2 hD2 => ?_)
  refine r_ldc2d (z := 4605493568939753472) dL_small_95 q562 ?_
  refine r_dcmpE dL_small_98 (by decide +kernel) ?_
  refine r_if_ne (tgt := 188) dL_small_99 (by decide) (by omega) (fun hb3 => absurd hb3 (by omega)) (fun hb3 => ?_)
  refine r_aload_n dL_small_102 rfl rfl ?_
  refine r_iconst dL_small_103 ?_
  refine r_iconst dL_small_104 ?_
  refine r_kX hD2 EV_ok (uX_place G _ 3 2 hD2.1 hD2.2.1 (by decide)) (mk3 (z := 0) ⟨by decide +kernel, by decide +kernel⟩ oPlace_A) dL_small_105 svX7_place q458 sh0 (ci := 7) rfl rfl rfl ⟨Nat.le_of_ble_eq_true rfl, Nat.le_of_ble_eq_true rfl⟩ (Nat.le_of_ble_eq_true rfl) ⟨Nat.le_of_ble_eq_true rfl, Nat.le_of_ble_eq_true rfl⟩ (fun s4 hD4 => ?_)
  refine r_if_ne (tgt := 188) dL_small_108 (by decide) (by omega) (fun hb5 => absurd hb5 (by omega)) (fun hb5 => ?_)
  refine r_aload_n dL_small_111 rfl rfl ?_
  refine r_iconst dL_small_112 ?_
  refine r_kX hD4 EV_ok (uX_witness G _ 0 hD4.1 hD4.2.1 (by decide)) (mk3 (z := (-1)) ⟨by decide +kernel, by decide +kernel⟩ oWitness_A) dL_small_113 svX7_witness q467 sh0 (ci := 7) rfl rfl rfl ⟨Nat.le_of_ble_eq_true rfl, Nat.le_of_ble_eq_true rfl⟩ (Nat.le_of_ble_eq_true rfl) ⟨Nat.le_of_ble_eq_true rfl, Nat.le_of_ble_eq_true rfl⟩ (fun s6 hD6 => ?_)
  refine r_iconst dL_small_116 ?_
  refine r_icmp_neE (tgt := 188) dL_small_117 (by decide) (rfl) ?_
  refine r_aload_n dL_small_120 rfl rfl ?_
  refine r_iconst dL_small_121 ?_
  refine r_iconst dL_small_122 ?_
  refine r_kX hD6 EV_ok (uX_cost G _ 1 1 hD6.1 hD6.2.1 (by decide)) (mk3 (z := 1) ⟨by decide +kernel, by decide +kernel⟩ oCost_A) dL_small_123 svX7_cost q479 sh0 (ci := 7) rfl rfl rfl ⟨Nat.le_of_ble_eq_true rfl, Nat.le_of_ble_eq_true rfl⟩ (Nat.le_of_ble_eq_true rfl) ⟨Nat.le_of_ble_eq_true rfl, Nat.le_of_ble_eq_true rfl⟩ (fun s7 hD7 => ?_)
  refine r_iconst dL_small_126 ?_
  refine r_icmp_neE (tgt := 188) dL_small_127 (by decide) (rfl) ?_
  refine r_aload_n dL_small_130 rfl rfl ?_
  refine r_kY hD7 EV_ok (tL_refused G _ hD7.1 hD7.2.1 (by decide +kernel)) dL_small_131 svL_refused q539 rfl ⟨Nat.le_of_ble_eq_true rfl, Nat.le_of_ble_eq_true rfl⟩ (Nat.le_of_ble_eq_true rfl) ⟨Nat.le_of_ble_eq_true rfl, Nat.le_of_ble_eq_true rfl⟩ (fun s8 hD8 => ?_)
  refine r_if_eq (tgt := 188) dL_small_134 (by decide) (by omega) (fun hb9 => absurd hb9 (by omega)) (fun hb9 => ?_)
  refine r_widen (k2 := 935) (n2 := 6954) (Nat.le_of_ble_eq_true rfl) (Nat.le_of_ble_eq_true rfl) ?_
  exact kk _ hD8
set_option maxHeartbeats 1000000 in
set_option maxRecDepth 100000 in
theorem as_p2 (G : GT) {P : Option Value → Sg → Prop} (hP : ∀ s, P (some (I 1)) s) (σ0 σ : Sg) (hD : Done σ0 σ A00) (kk : ∀ s : Sg, Done σ0 s as_5 → Rn G mL_small (rmD 23 2100 14000) (EV G) (Zn G false SH0 P 2100 14000) false SH0 941 6990 198 [(0, Rf G 0)] [] s) : Rn G mL_small (rmD 23 2100 14000) (EV G) (Zn G false SH0 P 2100 14000) false SH0 935 6954 137 [(0, Rf G 0)] [] σ := by
  refine r_aload_n dL_small_137 rfl rfl ?_
  refine r_iconst dL_small_138 ?_
  refine r_iconst dL_small_139 ?_
  refine r_kX hD EV_ok (uX_size G _ 2 2 hD.1 hD.2.1 (by decide)) (mk3 (z := 48) (A := as_1) ⟨by decide +kernel, by decide +kernel⟩ rfl) dL_small_140 svX7_size q383 sh0 (ci := 7) rfl rfl rfl ⟨Nat.le_of_ble_eq_true rfl, Nat.le_of_ble_eq_true rfl⟩ (Nat.le_of_ble_eq_true rfl) ⟨Nat.le_of_ble_eq_true rfl, Nat.le_of_ble_eq_true rfl⟩ (fun s1 hD1 => ?_)
  refine r_bipush dL_small_143 rfl ?_
  refine r_icmp_neE (tgt := 188) dL_small_145 (by decide) (rfl) ?_
  refine r_aload_n dL_small_148 rfl rfl ?_
  refine r_iconst dL_small_149 ?_
  refine r_iconst dL_small_150 ?_
  refine r_iconst dL_small_151 ?_
  refine r_kX hD1 EV_ok (uX_put G _ 0 0 5 hD1.1 hD1.2.1 (by decide)) (mk3 (z := 0) (A := as_2) ⟨by decide +kernel, by decide +kernel⟩ rfl) dL_small_152 svX7_put q139 sh0 (ci := 7) rfl rfl rfl ⟨Nat.le_of_ble_eq_true rfl, Nat.le_of_ble_eq_true rfl⟩ (Nat.le_of_ble_eq_true rfl) ⟨Nat.le_of_ble_eq_true rfl, Nat.le_of_ble_eq_true rfl⟩ (fun s2 hD2 => ?_)
  refine r_if_ne (tgt := 188) dL_small_155 (by decide) (by omega) (fun hb3 => absurd hb3 (by omega)) (fun hb3 => ?_)
  refine r_aload_n dL_small_158 rfl rfl ?_
  refine r_iconst dL_small_159 ?_
  refine r_iconst dL_small_160 ?_
  refine r_iconst dL_small_161 ?_
  refine r_kX hD2 EV_ok (uX_put G _ 0 1 3 hD2.1 hD2.2.1 (by decide)) (mk3 (z := 0) (A := as_3) ⟨by decide +kernel, by decide +kernel⟩ rfl) dL_small_162 svX7_put q139 sh0 (ci := 7) rfl rfl rfl ⟨Nat.le_of_ble_eq_true rfl, Nat.le_of_ble_eq_true rfl⟩ (Nat.le_of_ble_eq_true rfl) ⟨Nat.le_of_ble_eq_true rfl, Nat.le_of_ble_eq_true rfl⟩ (fun s4 hD4 => ?_)
  refine r_if_ne (tgt := 188) dL_small_165 (by decide) (by omega) (fun hb5 => absurd hb5 (by omega)) (fun hb5 => ?_)
  refine r_aload_n dL_small_168 rfl rfl ?_
  refine r_iconst dL_small_169 ?_
  refine r_iconst dL_small_170 ?_
  refine r_iconst dL_small_171 ?_
  refine r_kX hD4 EV_ok (uX_put G _ 1 0 1 hD4.1 hD4.2.1 (by decide)) (mk3 (z := 0) (A := as_4) ⟨by decide +kernel, by decide +kernel⟩ rfl) dL_small_172 svX7_put q139 sh0 (ci := 7) rfl rfl rfl ⟨Nat.le_of_ble_eq_true rfl, Nat.le_of_ble_eq_true rfl⟩ (Nat.le_of_ble_eq_true rfl) ⟨Nat.le_of_ble_eq_true rfl, Nat.le_of_ble_eq_true rfl⟩ (fun s6 hD6 => ?_)
  refine r_if_ne (tgt := 188) dL_small_175 (by decide) (by omega) (fun hb7 => absurd hb7 (by omega)) (fun hb7 => ?_)
  refine r_aload_n dL_small_178 rfl rfl ?_
  refine r_iconst dL_small_179 ?_
  refine r_iconst dL_small_180 ?_
  refine r_iconst dL_small_181 ?_
  refine r_kX hD6 EV_ok (uX_put G _ 1 1 2 hD6.1 hD6.2.1 (by decide)) (mk3 (z := 0) (A := as_5) ⟨by decide +kernel, by decide +kernel⟩ rfl) dL_small_182 svX7_put q139 sh0 (ci := 7) rfl rfl rfl ⟨Nat.le_of_ble_eq_true rfl, Nat.le_of_ble_eq_true rfl⟩ (Nat.le_of_ble_eq_true rfl) ⟨Nat.le_of_ble_eq_true rfl, Nat.le_of_ble_eq_true rfl⟩ (fun s8 hD8 => ?_)
  refine r_if_eq (tgt := 190) dL_small_185 (by decide) (by omega) (fun hb9 => ?_) (fun hb9 => absurd hb9 (by omega))
  refine r_aload_n dL_small_190 rfl rfl ?_
  refine r_iconst dL_small_191 ?_
  refine r_kX hD8 EV_ok (uX_witness G _ 0 hD8.1 hD8.2.1 (by decide)) (mk3 (z := 0) ⟨by decide +kernel, by decide +kernel⟩ oWitness_A) dL_small_192 svX7_witness q467 sh0 (ci := 7) rfl rfl rfl ⟨Nat.le_of_ble_eq_true rfl, Nat.le_of_ble_eq_true rfl⟩ (Nat.le_of_ble_eq_true rfl) ⟨Nat.le_of_ble_eq_true rfl, Nat.le_of_ble_eq_true rfl⟩ (fun s10 hD10 => ?_)
  refine r_if_ne (tgt := 399) dL_small_195 (by decide) (by omega) (fun hb11 => absurd hb11 (by omega)) (fun hb11 => ?_)
  refine r_widen (k2 := 941) (n2 := 6990) (Nat.le_of_ble_eq_true rfl) (Nat.le_of_ble_eq_true rfl) ?_
  exact kk _ hD10
set_option maxHeartbeats 1000000 in
set_option maxRecDepth 100000 in
theorem as_p3 (G : GT) {P : Option Value → Sg → Prop} (hP : ∀ s, P (some (I 1)) s) (σ0 σ : Sg) (hD : Done σ0 σ as_5) (kk : ∀ s : Sg, Done σ0 s as_5 → Rn G mL_small (rmD 23 2100 14000) (EV G) (Zn G false SH0 P 2100 14000) false SH0 947 7026 253 [(0, Rf G 0)] [] s) : Rn G mL_small (rmD 23 2100 14000) (EV G) (Zn G false SH0 P 2100 14000) false SH0 941 6990 198 [(0, Rf G 0)] [] σ := by
  refine r_aload_n dL_small_198 rfl rfl ?_
  refine r_iconst dL_small_199 ?_
  refine r_kX hD EV_ok (uX_witness G _ 1 hD.1 hD.2.1 (by decide)) (mk3 (z := 0) ⟨by decide +kernel, by decide +kernel⟩ oWitness_A) dL_small_200 svX7_witness q467 sh0 (ci := 7) rfl rfl rfl ⟨Nat.le_of_ble_eq_true rfl, Nat.le_of_ble_eq_true rfl⟩ (Nat.le_of_ble_eq_true rfl) ⟨Nat.le_of_ble_eq_true rfl, Nat.le_of_ble_eq_true rfl⟩ (fun s1 hD1 => ?_)
  refine r_if_ne (tgt := 399) dL_small_203 (by decide) (by omega) (fun hb2 => absurd hb2 (by omega)) (fun hb2 => ?_)
  refine r_aload_n dL_small_206 rfl rfl ?_
  refine r_iconst dL_small_207 ?_
  refine r_kX hD1 EV_ok (uX_witness G _ 2 hD1.1 hD1.2.1 (by decide)) (mk3 (z := 1) ⟨by decide +kernel, by decide +kernel⟩ oWitness_A) dL_small_208 svX7_witness q467 sh0 (ci := 7) rfl rfl rfl ⟨Nat.le_of_ble_eq_true rfl, Nat.le_of_ble_eq_true rfl⟩ (Nat.le_of_ble_eq_true rfl) ⟨Nat.le_of_ble_eq_true rfl, Nat.le_of_ble_eq_true rfl⟩ (fun s3 hD3 => ?_)
  refine r_iconst dL_small_211 ?_
  refine r_icmp_neE (tgt := 399) dL_small_212 (by decide) (rfl) ?_
  refine r_aload_n dL_small_215 rfl rfl ?_
  refine r_iconst dL_small_216 ?_
  refine r_kX hD3 EV_ok (uX_witness G _ 3 hD3.1 hD3.2.1 (by decide)) (mk3 (z := 1) ⟨by decide +kernel, by decide +kernel⟩ oWitness_A) dL_small_217 svX7_witness q467 sh0 (ci := 7) rfl rfl rfl ⟨Nat.le_of_ble_eq_true rfl, Nat.le_of_ble_eq_true rfl⟩ (Nat.le_of_ble_eq_true rfl) ⟨Nat.le_of_ble_eq_true rfl, Nat.le_of_ble_eq_true rfl⟩ (fun s4 hD4 => ?_)
  refine r_iconst dL_small_220 ?_
  refine r_icmp_neE (tgt := 399) dL_small_221 (by decide) (rfl) ?_
  refine r_aload_n dL_small_224 rfl rfl ?_
  refine r_iconst dL_small_225 ?_
  refine r_iconst dL_small_226 ?_
  refine r_kX hD4 EV_ok (uX_place G _ 0 0 hD4.1 hD4.2.1 (by decide)) (mk3 (z := 1) ⟨by decide +kernel, by decide +kernel⟩ oPlace_A) dL_small_227 svX7_place q458 sh0 (ci := 7) rfl rfl rfl ⟨Nat.le_of_ble_eq_true rfl, Nat.le_of_ble_eq_true rfl⟩ (Nat.le_of_ble_eq_true rfl) ⟨Nat.le_of_ble_eq_true rfl, Nat.le_of_ble_eq_true rfl⟩ (fun s5 hD5 => ?_)
  refine r_iconst dL_small_230 ?_
  refine r_icmp_neE (tgt := 399) dL_small_231 (by decide) (rfl) ?_
  refine r_aload_n dL_small_234 rfl rfl ?_
  refine r_iconst dL_small_235 ?_
  refine r_iconst dL_small_236 ?_
  refine r_kX hD5 EV_ok (uX_place G _ 1 0 hD5.1 hD5.2.1 (by decide)) (mk3 (z := 0) ⟨by decide +kernel, by decide +kernel⟩ oPlace_A) dL_small_237 svX7_place q458 sh0 (ci := 7) rfl rfl rfl ⟨Nat.le_of_ble_eq_true rfl, Nat.le_of_ble_eq_true rfl⟩ (Nat.le_of_ble_eq_true rfl) ⟨Nat.le_of_ble_eq_true rfl, Nat.le_of_ble_eq_true rfl⟩ (fun s6 hD6 => ?_)
  refine r_if_ne (tgt := 399) dL_small_240 (by decide) (by omega) (fun hb7 => absurd hb7 (by omega)) (fun hb7 => ?_)
  refine r_aload_n dL_small_243 rfl rfl ?_
  refine r_iconst dL_small_244 ?_
  refine r_iconst dL_small_245 ?_
  refine r_kX hD6 EV_ok (uX_place G _ 0 1 hD6.1 hD6.2.1 (by decide)) (mk3 (z := (-1)) ⟨by decide +kernel, by decide +kernel⟩ oPlace_A) dL_small_246 svX7_place q458 sh0 (ci := 7) rfl rfl rfl ⟨Nat.le_of_ble_eq_true rfl, Nat.le_of_ble_eq_true rfl⟩ (Nat.le_of_ble_eq_true rfl) ⟨Nat.le_of_ble_eq_true rfl, Nat.le_of_ble_eq_true rfl⟩ (fun s8 hD8 => ?_)
  refine r_iconst dL_small_249 ?_
  refine r_icmp_neE (tgt := 399) dL_small_250 (by decide) (rfl) ?_
  refine r_widen (k2 := 947) (n2 := 7026) (Nat.le_of_ble_eq_true rfl) (Nat.le_of_ble_eq_true rfl) ?_
  exact kk _ hD8
set_option maxHeartbeats 1000000 in
set_option maxRecDepth 100000 in
theorem as_p4 (G : GT) {P : Option Value → Sg → Prop} (hP : ∀ s, P (some (I 1)) s) (σ0 σ : Sg) (hD : Done σ0 σ as_5) (kk : ∀ s : Sg, Done σ0 s as_5 → Rn G mL_small (rmD 23 2100 14000) (EV G) (Zn G false SH0 P 2100 14000) false SH0 952 7056 309 [(0, Rf G 0)] [] s) : Rn G mL_small (rmD 23 2100 14000) (EV G) (Zn G false SH0 P 2100 14000) false SH0 947 7026 253 [(0, Rf G 0)] [] σ := by
  refine r_aload_n dL_small_253 rfl rfl ?_
  refine r_iconst dL_small_254 ?_
  refine r_iconst dL_small_255 ?_
  refine r_kX hD EV_ok (uX_place G _ 1 2 hD.1 hD.2.1 (by decide)) (mk3 (z := (-1)) ⟨by decide +kernel, by decide +kernel⟩ oPlace_A) dL_small_256 svX7_place q458 sh0 (ci := 7) rfl rfl rfl ⟨Nat.le_of_ble_eq_true rfl, Nat.le_of_ble_eq_true rfl⟩ (Nat.le_of_ble_eq_true rfl) ⟨Nat.le_of_ble_eq_true rfl, Nat.le_of_ble_eq_true rfl⟩ (fun s1 hD1 => ?_)
  refine r_iconst dL_small_259 ?_
  refine r_icmp_neE (tgt := 399) dL_small_260 (by decide) (rfl) ?_
  refine r_aload_n dL_small_263 rfl rfl ?_
  refine r_iconst dL_small_264 ?_
  refine r_kX hD1 EV_ok (uX_looks G _ 1 hD1.1 hD1.2.1 (by decide)) (mk3 (z := (-1)) ⟨by decide +kernel, by decide +kernel⟩ oLooks_A) dL_small_265 svX7_looks q463 sh0 (ci := 7) rfl rfl rfl ⟨Nat.le_of_ble_eq_true rfl, Nat.le_of_ble_eq_true rfl⟩ (Nat.le_of_ble_eq_true rfl) ⟨Nat.le_of_ble_eq_true rfl, Nat.le_of_ble_eq_true rfl⟩ (fun s2 hD2 => ?_)
  refine r_iconst dL_small_268 ?_
  refine r_icmp_neE (tgt := 399) dL_small_269 (by decide) (rfl) ?_
  refine r_aload_n dL_small_272 rfl rfl ?_
  refine r_iconst dL_small_273 ?_
  refine r_kX hD2 EV_ok (uX_looks G _ 2 hD2.1 hD2.2.1 (by decide)) (mk3 (z := (-1)) ⟨by decide +kernel, by decide +kernel⟩ oLooks_A) dL_small_274 svX7_looks q463 sh0 (ci := 7) rfl rfl rfl ⟨Nat.le_of_ble_eq_true rfl, Nat.le_of_ble_eq_true rfl⟩ (Nat.le_of_ble_eq_true rfl) ⟨Nat.le_of_ble_eq_true rfl, Nat.le_of_ble_eq_true rfl⟩ (fun s3 hD3 => ?_)
  refine r_iconst dL_small_277 ?_
  refine r_icmp_neE (tgt := 399) dL_small_278 (by decide) (rfl) ?_
  refine r_aload_n dL_small_281 rfl rfl ?_
  refine r_iconst dL_small_282 ?_
  refine r_kX hD3 EV_ok (uX_looks G _ 0 hD3.1 hD3.2.1 (by decide)) (mk3 (z := 4) ⟨by decide +kernel, by decide +kernel⟩ oLooks_A) dL_small_283 svX7_looks q463 sh0 (ci := 7) rfl rfl rfl ⟨Nat.le_of_ble_eq_true rfl, Nat.le_of_ble_eq_true rfl⟩ (Nat.le_of_ble_eq_true rfl) ⟨Nat.le_of_ble_eq_true rfl, Nat.le_of_ble_eq_true rfl⟩ (fun s4 hD4 => ?_)
  refine r_iconst dL_small_286 ?_
  refine r_icmp_neE (tgt := 399) dL_small_287 (by decide) (rfl) ?_
  refine r_aload_n dL_small_290 rfl rfl ?_
  refine r_kH hD4 (tX7_halfShare G _ hD4.1) (x := FP.dconst0) (by decide +kernel) dL_small_291 svX7_halfShare q553 sh0 (ci := 7) rfl rfl rfl ⟨Nat.le_of_ble_eq_true rfl, Nat.le_of_ble_eq_true rfl⟩ (Nat.le_of_ble_eq_true rfl) ⟨Nat.le_of_ble_eq_true rfl, Nat.le_of_ble_eq_true rfl⟩ (fun s5 hD5 => ?_)
  refine r_dconst0 dL_small_294 ?_
  refine r_dcmpE dL_small_295 (by decide +kernel) ?_
  refine r_if_ne (tgt := 399) dL_small_296 (by decide) (by omega) (fun hb6 => absurd hb6 (by omega)) (fun hb6 => ?_)
  refine r_aload_n dL_small_299 rfl rfl ?_
  refine r_bipush dL_small_300 rfl ?_
  refine r_kX hD5 EV_ok (uX_count G _ 7 hD5.1 hD5.2.1 (by decide)) (mk3 (z := 1) ⟨by decide +kernel, by decide +kernel⟩ oCount_A) dL_small_302 svX7_count q349 sh0 (ci := 7) rfl rfl rfl ⟨Nat.le_of_ble_eq_true rfl, Nat.le_of_ble_eq_true rfl⟩ (Nat.le_of_ble_eq_true rfl) ⟨Nat.le_of_ble_eq_true rfl, Nat.le_of_ble_eq_true rfl⟩ (fun s7 hD7 => ?_)
  refine r_iconst dL_small_305 ?_
  refine r_icmp_neE (tgt := 399) dL_small_306 (by decide) (rfl) ?_
  refine r_widen (k2 := 952) (n2 := 7056) (Nat.le_of_ble_eq_true rfl) (Nat.le_of_ble_eq_true rfl) ?_
  exact kk _ hD7
set_option maxHeartbeats 1000000 in
set_option maxRecDepth 100000 in
theorem as_p5 (G : GT) {P : Option Value → Sg → Prop} (hP : ∀ s, P (some (I 1)) s) (σ0 σ : Sg) (hD : Done σ0 σ as_5) (kk : ∀ s : Sg, Done σ0 s as_8 → Rn G mL_small (rmD 23 2100 14000) (EV G) (Zn G false SH0 P 2100 14000) false SH0 957 7086 372 [(0, Rf G 0)] [] s) : Rn G mL_small (rmD 23 2100 14000) (EV G) (Zn G false SH0 P 2100 14000) false SH0 952 7056 309 [(0, Rf G 0)] [] σ := by
  refine r_aload_n dL_small_309 rfl rfl ?_
  refine r_iconst dL_small_310 ?_
  refine r_iconst dL_small_311 ?_
  refine r_iconst dL_small_312 ?_
  refine r_iconst dL_small_313 ?_
  refine r_iconst dL_small_314 ?_
  refine r_kC hD EV_ok (tL_call3 G _ 1 0 0 0 hD.1 hD.2.1 (by decide)) (z := (-13)) (by decide +kernel) (oFind_x (by decide +kernel)) dL_small_315 q378 q0 q379 pd_call q377 rfl ⟨Nat.le_of_ble_eq_true rfl, Nat.le_of_ble_eq_true rfl⟩ (Nat.le_of_ble_eq_true rfl) ⟨Nat.le_of_ble_eq_true rfl, Nat.le_of_ble_eq_true rfl⟩ (fun s1 hD1 => ?_)
  refine r_bipush dL_small_318 rfl ?_
  refine r_icmp_neE (tgt := 399) dL_small_320 (by decide) (rfl) ?_
  refine r_aload_n dL_small_323 rfl rfl ?_
  refine r_iconst dL_small_324 ?_
  refine r_iconst dL_small_325 ?_
  refine r_iconst dL_small_326 ?_
  refine r_iconst dL_small_327 ?_
  refine r_iconst dL_small_328 ?_
  refine r_kC hD1 EV_ok (tL_call3 G _ 2 0 0 0 hD1.1 hD1.2.1 (by decide)) (z := (-13)) (by decide +kernel) (oFind_x (by decide +kernel)) dL_small_329 q378 q0 q379 pd_call q377 rfl ⟨Nat.le_of_ble_eq_true rfl, Nat.le_of_ble_eq_true rfl⟩ (Nat.le_of_ble_eq_true rfl) ⟨Nat.le_of_ble_eq_true rfl, Nat.le_of_ble_eq_true rfl⟩ (fun s2 hD2 => ?_)
  refine r_bipush dL_small_332 rfl ?_
  refine r_icmp_neE (tgt := 399) dL_small_334 (by decide) (rfl) ?_
  refine r_aload_n dL_small_337 rfl rfl ?_
  refine r_iconst dL_small_338 ?_
  refine r_kX hD2 EV_ok (uX_find G _ 0 hD2.1 hD2.2.1 (by decide)) (mk3 (z := 4) (A := as_6) ⟨by decide +kernel, by decide +kernel⟩ rfl) dL_small_339 svX7_find q244 sh0 (ci := 7) rfl rfl rfl ⟨Nat.le_of_ble_eq_true rfl, Nat.le_of_ble_eq_true rfl⟩ (Nat.le_of_ble_eq_true rfl) ⟨Nat.le_of_ble_eq_true rfl, Nat.le_of_ble_eq_true rfl⟩ (fun s3 hD3 => ?_)
  refine r_iconst dL_small_342 ?_
  refine r_icmp_neE (tgt := 399) dL_small_343 (by decide) (rfl) ?_
  refine r_aload_n dL_small_346 rfl rfl ?_
  refine r_iconst dL_small_347 ?_
  refine r_kX hD3 EV_ok (uX_keep G _ 0 hD3.1 hD3.2.1 (by decide)) (mk3 (z := 2) (A := as_7) ⟨by decide +kernel, by decide +kernel⟩ rfl) dL_small_348 svX7_keep q324 sh0 (ci := 7) rfl rfl rfl ⟨Nat.le_of_ble_eq_true rfl, Nat.le_of_ble_eq_true rfl⟩ (Nat.le_of_ble_eq_true rfl) ⟨Nat.le_of_ble_eq_true rfl, Nat.le_of_ble_eq_true rfl⟩ (fun s4 hD4 => ?_)
  refine r_iconst dL_small_351 ?_
  refine r_icmp_neE (tgt := 399) dL_small_352 (by decide) (rfl) ?_
  refine r_aload_n dL_small_355 rfl rfl ?_
  refine r_kO hD4 (uX_mend G _ hD4.1 hD4.2.1) (mk3 (z := 0) (A := as_8) ⟨by decide +kernel, by decide +kernel⟩ rfl) dL_small_356 svX7_mend q239 sh0 (ci := 7) rfl rfl rfl ⟨Nat.le_of_ble_eq_true rfl, Nat.le_of_ble_eq_true rfl⟩ (Nat.le_of_ble_eq_true rfl) ⟨Nat.le_of_ble_eq_true rfl, Nat.le_of_ble_eq_true rfl⟩ (fun s5 hD5 => ?_)
  refine r_if_ne (tgt := 399) dL_small_359 (by decide) (by omega) (fun hb6 => absurd hb6 (by omega)) (fun hb6 => ?_)
  refine r_aload_n dL_small_362 rfl rfl ?_
  refine r_iconst dL_small_363 ?_
  refine r_iconst dL_small_364 ?_
  refine r_kX hD5 EV_ok (uX_cell G _ 1 0 hD5.1 hD5.2.1 (by decide)) (mk3 (z := 3) ⟨by decide +kernel, by decide +kernel⟩ oCell_A) dL_small_365 svX7_cell q454 sh0 (ci := 7) rfl rfl rfl ⟨Nat.le_of_ble_eq_true rfl, Nat.le_of_ble_eq_true rfl⟩ (Nat.le_of_ble_eq_true rfl) ⟨Nat.le_of_ble_eq_true rfl, Nat.le_of_ble_eq_true rfl⟩ (fun s7 hD7 => ?_)
  refine r_iconst dL_small_368 ?_
  refine r_icmp_neE (tgt := 399) dL_small_369 (by decide) (rfl) ?_
  refine r_widen (k2 := 957) (n2 := 7086) (Nat.le_of_ble_eq_true rfl) (Nat.le_of_ble_eq_true rfl) ?_
  exact kk _ hD7
set_option maxHeartbeats 1000000 in
set_option maxRecDepth 100000 in
theorem as_p6 (G : GT) {P : Option Value → Sg → Prop} (hP : ∀ s, P (some (I 1)) s) (σ0 σ : Sg) (hD : Done σ0 σ as_8) (kk : ∀ s : Sg, Done σ0 s as_8 → Rn G mL_small (rmD 23 2100 14000) (EV G) (Zn G false SH0 P 2100 14000) false SH0 963 7122 430 [(0, Rf G 0)] [] s) : Rn G mL_small (rmD 23 2100 14000) (EV G) (Zn G false SH0 P 2100 14000) false SH0 957 7086 372 [(0, Rf G 0)] [] σ := by
  refine r_aload_n dL_small_372 rfl rfl ?_
  refine r_iconst dL_small_373 ?_
  refine r_kX hD EV_ok (uX_witness G _ 3 hD.1 hD.2.1 (by decide)) (mk3 (z := 0) ⟨by decide +kernel, by decide +kernel⟩ oWitness_A) dL_small_374 svX7_witness q467 sh0 (ci := 7) rfl rfl rfl ⟨Nat.le_of_ble_eq_true rfl, Nat.le_of_ble_eq_true rfl⟩ (Nat.le_of_ble_eq_true rfl) ⟨Nat.le_of_ble_eq_true rfl, Nat.le_of_ble_eq_true rfl⟩ (fun s1 hD1 => ?_)
  refine r_if_ne (tgt := 399) dL_small_377 (by decide) (by omega) (fun hb2 => absurd hb2 (by omega)) (fun hb2 => ?_)
  refine r_aload_n dL_small_380 rfl rfl ?_
  refine r_bipush dL_small_381 rfl ?_
  refine r_kX hD1 EV_ok (uX_count G _ 6 hD1.1 hD1.2.1 (by decide)) (mk3 (z := 1) ⟨by decide +kernel, by decide +kernel⟩ oCount_A) dL_small_383 svX7_count q349 sh0 (ci := 7) rfl rfl rfl ⟨Nat.le_of_ble_eq_true rfl, Nat.le_of_ble_eq_true rfl⟩ (Nat.le_of_ble_eq_true rfl) ⟨Nat.le_of_ble_eq_true rfl, Nat.le_of_ble_eq_true rfl⟩ (fun s3 hD3 => ?_)
  refine r_iconst dL_small_386 ?_
  refine r_icmp_neE (tgt := 399) dL_small_387 (by decide) (rfl) ?_
  refine r_aload_n dL_small_390 rfl rfl ?_
  refine r_bipush dL_small_391 rfl ?_
  refine r_kX hD3 EV_ok (uX_count G _ 7 hD3.1 hD3.2.1 (by decide)) (mk3 (z := 0) ⟨by decide +kernel, by decide +kernel⟩ oCount_A) dL_small_393 svX7_count q349 sh0 (ci := 7) rfl rfl rfl ⟨Nat.le_of_ble_eq_true rfl, Nat.le_of_ble_eq_true rfl⟩ (Nat.le_of_ble_eq_true rfl) ⟨Nat.le_of_ble_eq_true rfl, Nat.le_of_ble_eq_true rfl⟩ (fun s4 hD4 => ?_)
  refine r_if_eq (tgt := 401) dL_small_396 (by decide) (by omega) (fun hb5 => ?_) (fun hb5 => absurd hb5 (by omega))
  refine r_aload_n dL_small_401 rfl rfl ?_
  refine r_iconst dL_small_402 ?_
  refine r_iconst dL_small_403 ?_
  refine r_kX hD4 EV_ok (uX_place G _ 1 1 hD4.1 hD4.2.1 (by decide)) (mk3 (z := 1) ⟨by decide +kernel, by decide +kernel⟩ oPlace_A) dL_small_404 svX7_place q458 sh0 (ci := 7) rfl rfl rfl ⟨Nat.le_of_ble_eq_true rfl, Nat.le_of_ble_eq_true rfl⟩ (Nat.le_of_ble_eq_true rfl) ⟨Nat.le_of_ble_eq_true rfl, Nat.le_of_ble_eq_true rfl⟩ (fun s6 hD6 => ?_)
  refine r_iconst dL_small_407 ?_
  refine r_icmp_neE (tgt := 631) dL_small_408 (by decide) (rfl) ?_
  refine r_aload_n dL_small_411 rfl rfl ?_
  refine r_iconst dL_small_412 ?_
  refine r_iconst dL_small_413 ?_
  refine r_kX hD6 EV_ok (uX_place G _ 0 2 hD6.1 hD6.2.1 (by decide)) (mk3 (z := 1) ⟨by decide +kernel, by decide +kernel⟩ oPlace_A) dL_small_414 svX7_place q458 sh0 (ci := 7) rfl rfl rfl ⟨Nat.le_of_ble_eq_true rfl, Nat.le_of_ble_eq_true rfl⟩ (Nat.le_of_ble_eq_true rfl) ⟨Nat.le_of_ble_eq_true rfl, Nat.le_of_ble_eq_true rfl⟩ (fun s7 hD7 => ?_)
  refine r_iconst dL_small_417 ?_
  refine r_icmp_neE (tgt := 631) dL_small_418 (by decide) (rfl) ?_
  refine r_aload_n dL_small_421 rfl rfl ?_
  refine r_iconst dL_small_422 ?_
  refine r_kX hD7 EV_ok (uX_looks G _ 1 hD7.1 hD7.2.1 (by decide)) (mk3 (z := 3) ⟨by decide +kernel, by decide +kernel⟩ oLooks_A) dL_small_423 svX7_looks q463 sh0 (ci := 7) rfl rfl rfl ⟨Nat.le_of_ble_eq_true rfl, Nat.le_of_ble_eq_true rfl⟩ (Nat.le_of_ble_eq_true rfl) ⟨Nat.le_of_ble_eq_true rfl, Nat.le_of_ble_eq_true rfl⟩ (fun s8 hD8 => ?_)
  refine r_iconst dL_small_426 ?_
  refine r_icmp_neE (tgt := 631) dL_small_427 (by decide) (rfl) ?_
  refine r_widen (k2 := 963) (n2 := 7122) (Nat.le_of_ble_eq_true rfl) (Nat.le_of_ble_eq_true rfl) ?_
  exact kk _ hD8
set_option maxHeartbeats 1000000 in
set_option maxRecDepth 100000 in
theorem as_p7 (G : GT) {P : Option Value → Sg → Prop} (hP : ∀ s, P (some (I 1)) s) (σ0 σ : Sg) (hD : Done σ0 σ as_8) (kk : ∀ s : Sg, Done σ0 s as_10 → Rn G mL_small (rmD 23 2100 14000) (EV G) (Zn G false SH0 P 2100 14000) false SH0 967 7146 487 [(0, Rf G 0)] [] s) : Rn G mL_small (rmD 23 2100 14000) (EV G) (Zn G false SH0 P 2100 14000) false SH0 963 7122 430 [(0, Rf G 0)] [] σ := by
  refine r_aload_n dL_small_430 rfl rfl ?_
  refine r_iconst dL_small_431 ?_
  refine r_kX hD EV_ok (uX_looks G _ 2 hD.1 hD.2.1 (by decide)) (mk3 (z := 4) ⟨by decide +kernel, by decide +kernel⟩ oLooks_A) dL_small_432 svX7_looks q463 sh0 (ci := 7) rfl rfl rfl ⟨Nat.le_of_ble_eq_true rfl, Nat.le_of_ble_eq_true rfl⟩ (Nat.le_of_ble_eq_true rfl) ⟨Nat.le_of_ble_eq_true rfl, Nat.le_of_ble_eq_true rfl⟩ (fun s1 hD1 => ?_)
  refine r_iconst dL_small_435 ?_
  refine r_icmp_neE (tgt := 631) dL_small_436 (by decide) (rfl) ?_
  refine r_aload_n dL_small_439 rfl rfl ?_
  refine r_kO hD1 (uX_bound G _ hD1.1 hD1.2.1) (mk3 (z := 8) ⟨by decide +kernel, by decide +kernel⟩ oBound_A) dL_small_440 svX7_bound q535 sh0 (ci := 7) rfl rfl rfl ⟨Nat.le_of_ble_eq_true rfl, Nat.le_of_ble_eq_true rfl⟩ (Nat.le_of_ble_eq_true rfl) ⟨Nat.le_of_ble_eq_true rfl, Nat.le_of_ble_eq_true rfl⟩ (fun s2 hD2 => ?_)
  refine r_bipush dL_small_443 rfl ?_
  refine r_icmp_neE (tgt := 631) dL_small_445 (by decide) (rfl) ?_
  refine r_aload_n dL_small_448 rfl rfl ?_
  refine r_kH hD2 (tX7_halfShare G _ hD2.1) (x := (4604930618986332160 : UInt64)) (by decide +kernel) dL_small_449 svX7_halfShare q553 sh0 (ci := 7) rfl rfl rfl ⟨Nat.le_of_ble_eq_true rfl, Nat.le_of_ble_eq_true rfl⟩ (Nat.le_of_ble_eq_true rfl) ⟨Nat.le_of_ble_eq_true rfl, Nat.le_of_ble_eq_true rfl⟩ (fun s3 hD3 => ?_)
  refine r_ldc2d (z := 4604930618986332160) dL_small_452 q563 ?_
  refine r_dcmpE dL_small_455 (by decide +kernel) ?_
  refine r_if_ne (tgt := 631) dL_small_456 (by decide) (by omega) (fun hb4 => absurd hb4 (by omega)) (fun hb4 => ?_)
  refine r_aload_n dL_small_459 rfl rfl ?_
  refine r_iconst dL_small_460 ?_
  refine r_kX hD3 EV_ok (uX_find G _ 1 hD3.1 hD3.2.1 (by decide)) (mk3 (z := 3) (A := as_9) ⟨by decide +kernel, by decide +kernel⟩ rfl) dL_small_461 svX7_find q244 sh0 (ci := 7) rfl rfl rfl ⟨Nat.le_of_ble_eq_true rfl, Nat.le_of_ble_eq_true rfl⟩ (Nat.le_of_ble_eq_true rfl) ⟨Nat.le_of_ble_eq_true rfl, Nat.le_of_ble_eq_true rfl⟩ (fun s5 hD5 => ?_)
  refine r_iconst dL_small_464 ?_
  refine r_icmp_neE (tgt := 631) dL_small_465 (by decide) (rfl) ?_
  refine r_aload_n dL_small_468 rfl rfl ?_
  refine r_iconst dL_small_469 ?_
  refine r_kX hD5 EV_ok (uX_find G _ 2 hD5.1 hD5.2.1 (by decide)) (mk3 (z := 4) (A := as_10) ⟨by decide +kernel, by decide +kernel⟩ rfl) dL_small_470 svX7_find q244 sh0 (ci := 7) rfl rfl rfl ⟨Nat.le_of_ble_eq_true rfl, Nat.le_of_ble_eq_true rfl⟩ (Nat.le_of_ble_eq_true rfl) ⟨Nat.le_of_ble_eq_true rfl, Nat.le_of_ble_eq_true rfl⟩ (fun s6 hD6 => ?_)
  refine r_iconst dL_small_473 ?_
  refine r_icmp_neE (tgt := 631) dL_small_474 (by decide) (rfl) ?_
  refine r_aload_n dL_small_477 rfl rfl ?_
  refine r_iconst dL_small_478 ?_
  refine r_kX hD6 EV_ok (uX_count G _ 4 hD6.1 hD6.2.1 (by decide)) (mk3 (z := 11) ⟨by decide +kernel, by decide +kernel⟩ oCount_A) dL_small_479 svX7_count q349 sh0 (ci := 7) rfl rfl rfl ⟨Nat.le_of_ble_eq_true rfl, Nat.le_of_ble_eq_true rfl⟩ (Nat.le_of_ble_eq_true rfl) ⟨Nat.le_of_ble_eq_true rfl, Nat.le_of_ble_eq_true rfl⟩ (fun s7 hD7 => ?_)
  refine r_bipush dL_small_482 rfl ?_
  refine r_icmp_neE (tgt := 631) dL_small_484 (by decide) (rfl) ?_
  refine r_widen (k2 := 967) (n2 := 7146) (Nat.le_of_ble_eq_true rfl) (Nat.le_of_ble_eq_true rfl) ?_
  exact kk _ hD7
set_option maxHeartbeats 1000000 in
set_option maxRecDepth 100000 in
theorem as_p8 (G : GT) {P : Option Value → Sg → Prop} (hP : ∀ s, P (some (I 1)) s) (σ0 σ : Sg) (hD : Done σ0 σ as_10) (kk : ∀ s : Sg, Done σ0 s as_12 → Rn G mL_small (rmD 23 2100 14000) (EV G) (Zn G false SH0 P 2100 14000) false SH0 972 7176 542 [(0, Rf G 0)] [] s) : Rn G mL_small (rmD 23 2100 14000) (EV G) (Zn G false SH0 P 2100 14000) false SH0 967 7146 487 [(0, Rf G 0)] [] σ := by
  refine r_aload_n dL_small_487 rfl rfl ?_
  refine r_iconst dL_small_488 ?_
  refine r_kX hD EV_ok (uX_count G _ 5 hD.1 hD.2.1 (by decide)) (mk3 (z := 3) ⟨by decide +kernel, by decide +kernel⟩ oCount_A) dL_small_489 svX7_count q349 sh0 (ci := 7) rfl rfl rfl ⟨Nat.le_of_ble_eq_true rfl, Nat.le_of_ble_eq_true rfl⟩ (Nat.le_of_ble_eq_true rfl) ⟨Nat.le_of_ble_eq_true rfl, Nat.le_of_ble_eq_true rfl⟩ (fun s1 hD1 => ?_)
  refine r_iconst dL_small_492 ?_
  refine r_icmp_neE (tgt := 631) dL_small_493 (by decide) (rfl) ?_
  refine r_aload_n dL_small_496 rfl rfl ?_
  refine r_bipush dL_small_497 rfl ?_
  refine r_kX hD1 EV_ok (uX_count G _ 8 hD1.1 hD1.2.1 (by decide)) (mk3 (z := 6) ⟨by decide +kernel, by decide +kernel⟩ oCount_A) dL_small_499 svX7_count q349 sh0 (ci := 7) rfl rfl rfl ⟨Nat.le_of_ble_eq_true rfl, Nat.le_of_ble_eq_true rfl⟩ (Nat.le_of_ble_eq_true rfl) ⟨Nat.le_of_ble_eq_true rfl, Nat.le_of_ble_eq_true rfl⟩ (fun s2 hD2 => ?_)
  refine r_bipush dL_small_502 rfl ?_
  refine r_icmp_neE (tgt := 631) dL_small_504 (by decide) (rfl) ?_
  refine r_aload_n dL_small_507 rfl rfl ?_
  refine r_kO hD2 (uX_mend G _ hD2.1 hD2.2.1) (mk3 (z := (-1)) (A := as_11) ⟨by decide +kernel, by decide +kernel⟩ rfl) dL_small_508 svX7_mend q239 sh0 (ci := 7) rfl rfl rfl ⟨Nat.le_of_ble_eq_true rfl, Nat.le_of_ble_eq_true rfl⟩ (Nat.le_of_ble_eq_true rfl) ⟨Nat.le_of_ble_eq_true rfl, Nat.le_of_ble_eq_true rfl⟩ (fun s3 hD3 => ?_)
  refine r_iconst dL_small_511 ?_
  refine r_icmp_neE (tgt := 631) dL_small_512 (by decide) (rfl) ?_
  refine r_aload_n dL_small_515 rfl rfl ?_
  refine r_bipush dL_small_516 rfl ?_
  refine r_kX hD3 EV_ok (uX_count G _ 6 hD3.1 hD3.2.1 (by decide)) (mk3 (z := 1) ⟨by decide +kernel, by decide +kernel⟩ oCount_A) dL_small_518 svX7_count q349 sh0 (ci := 7) rfl rfl rfl ⟨Nat.le_of_ble_eq_true rfl, Nat.le_of_ble_eq_true rfl⟩ (Nat.le_of_ble_eq_true rfl) ⟨Nat.le_of_ble_eq_true rfl, Nat.le_of_ble_eq_true rfl⟩ (fun s4 hD4 => ?_)
  refine r_iconst dL_small_521 ?_
  refine r_icmp_neE (tgt := 631) dL_small_522 (by decide) (rfl) ?_
  refine r_aload_n dL_small_525 rfl rfl ?_
  refine r_kX hD4 EV_ok (uX_undo G _ hD4.1 hD4.2.1) (mk3 (z := 5) (A := as_12) ⟨by decide +kernel, by decide +kernel⟩ rfl) dL_small_526 svX7_undo q341 sh0 (ci := 7) rfl rfl rfl ⟨Nat.le_of_ble_eq_true rfl, Nat.le_of_ble_eq_true rfl⟩ (Nat.le_of_ble_eq_true rfl) ⟨Nat.le_of_ble_eq_true rfl, Nat.le_of_ble_eq_true rfl⟩ (fun s5 hD5 => ?_)
  refine r_iconst dL_small_529 ?_
  refine r_icmp_neE (tgt := 631) dL_small_530 (by decide) (rfl) ?_
  refine r_aload_n dL_small_533 rfl rfl ?_
  refine r_iconst dL_small_534 ?_
  refine r_kX hD5 EV_ok (uX_count G _ 5 hD5.1 hD5.2.1 (by decide)) (mk3 (z := 3) ⟨by decide +kernel, by decide +kernel⟩ oCount_A) dL_small_535 svX7_count q349 sh0 (ci := 7) rfl rfl rfl ⟨Nat.le_of_ble_eq_true rfl, Nat.le_of_ble_eq_true rfl⟩ (Nat.le_of_ble_eq_true rfl) ⟨Nat.le_of_ble_eq_true rfl, Nat.le_of_ble_eq_true rfl⟩ (fun s6 hD6 => ?_)
  refine r_iconst dL_small_538 ?_
  refine r_icmp_neE (tgt := 631) dL_small_539 (by decide) (rfl) ?_
  refine r_widen (k2 := 972) (n2 := 7176) (Nat.le_of_ble_eq_true rfl) (Nat.le_of_ble_eq_true rfl) ?_
  exact kk _ hD6
set_option maxHeartbeats 1000000 in
set_option maxRecDepth 100000 in
theorem as_p9 (G : GT) {P : Option Value → Sg → Prop} (hP : ∀ s, P (some (I 1)) s) (σ0 σ : Sg) (hD : Done σ0 σ as_12) (kk : ∀ s : Sg, Done σ0 s as_15 → Rn G mL_small (rmD 23 2100 14000) (EV G) (Zn G false SH0 P 2100 14000) false SH0 977 7206 604 [(0, Rf G 0)] [] s) : Rn G mL_small (rmD 23 2100 14000) (EV G) (Zn G false SH0 P 2100 14000) false SH0 972 7176 542 [(0, Rf G 0)] [] σ := by
  refine r_aload_n dL_small_542 rfl rfl ?_
  refine r_iconst dL_small_543 ?_
  refine r_iconst dL_small_544 ?_
  refine r_sipush dL_small_545 rfl ?_
  refine r_kX hD EV_ok (uX_put G _ 1 1 9999 hD.1 hD.2.1 (by decide)) (mk3 (z := 2) (A := as_13) ⟨by decide +kernel, by decide +kernel⟩ rfl) dL_small_548 svX7_put q139 sh0 (ci := 7) rfl rfl rfl ⟨Nat.le_of_ble_eq_true rfl, Nat.le_of_ble_eq_true rfl⟩ (Nat.le_of_ble_eq_true rfl) ⟨Nat.le_of_ble_eq_true rfl, Nat.le_of_ble_eq_true rfl⟩ (fun s1 hD1 => ?_)
  refine r_iconst dL_small_551 ?_
  refine r_icmp_neE (tgt := 631) dL_small_552 (by decide) (rfl) ?_
  refine r_aload_n dL_small_555 rfl rfl ?_
  refine r_iconst dL_small_556 ?_
  refine r_kX hD1 EV_ok (uX_witness G _ 3 hD1.1 hD1.2.1 (by decide)) (mk3 (z := 1) ⟨by decide +kernel, by decide +kernel⟩ oWitness_A) dL_small_557 svX7_witness q467 sh0 (ci := 7) rfl rfl rfl ⟨Nat.le_of_ble_eq_true rfl, Nat.le_of_ble_eq_true rfl⟩ (Nat.le_of_ble_eq_true rfl) ⟨Nat.le_of_ble_eq_true rfl, Nat.le_of_ble_eq_true rfl⟩ (fun s2 hD2 => ?_)
  refine r_iconst dL_small_560 ?_
  refine r_icmp_neE (tgt := 631) dL_small_561 (by decide) (rfl) ?_
  refine r_aload_n dL_small_564 rfl rfl ?_
  refine r_kO hD2 (uX_mend G _ hD2.1 hD2.2.1) (mk3 (z := (-1)) (A := as_14) ⟨by decide +kernel, by decide +kernel⟩ rfl) dL_small_565 svX7_mend q239 sh0 (ci := 7) rfl rfl rfl ⟨Nat.le_of_ble_eq_true rfl, Nat.le_of_ble_eq_true rfl⟩ (Nat.le_of_ble_eq_true rfl) ⟨Nat.le_of_ble_eq_true rfl, Nat.le_of_ble_eq_true rfl⟩ (fun s3 hD3 => ?_)
  refine r_iconst dL_small_568 ?_
  refine r_icmp_neE (tgt := 631) dL_small_569 (by decide) (rfl) ?_
  refine r_aload_n dL_small_572 rfl rfl ?_
  refine r_iconst dL_small_573 ?_
  refine r_kX hD3 EV_ok (uX_witness G _ 3 hD3.1 hD3.2.1 (by decide)) (mk3 (z := 1) ⟨by decide +kernel, by decide +kernel⟩ oWitness_A) dL_small_574 svX7_witness q467 sh0 (ci := 7) rfl rfl rfl ⟨Nat.le_of_ble_eq_true rfl, Nat.le_of_ble_eq_true rfl⟩ (Nat.le_of_ble_eq_true rfl) ⟨Nat.le_of_ble_eq_true rfl, Nat.le_of_ble_eq_true rfl⟩ (fun s4 hD4 => ?_)
  refine r_iconst dL_small_577 ?_
  refine r_icmp_neE (tgt := 631) dL_small_578 (by decide) (rfl) ?_
  refine r_aload_n dL_small_581 rfl rfl ?_
  refine r_bipush dL_small_582 rfl ?_
  refine r_kX hD4 EV_ok (uX_count G _ 6 hD4.1 hD4.2.1 (by decide)) (mk3 (z := 1) ⟨by decide +kernel, by decide +kernel⟩ oCount_A) dL_small_584 svX7_count q349 sh0 (ci := 7) rfl rfl rfl ⟨Nat.le_of_ble_eq_true rfl, Nat.le_of_ble_eq_true rfl⟩ (Nat.le_of_ble_eq_true rfl) ⟨Nat.le_of_ble_eq_true rfl, Nat.le_of_ble_eq_true rfl⟩ (fun s5 hD5 => ?_)
  refine r_iconst dL_small_587 ?_
  refine r_icmp_neE (tgt := 631) dL_small_588 (by decide) (rfl) ?_
  refine r_aload_n dL_small_591 rfl rfl ?_
  refine r_iconst dL_small_592 ?_
  refine r_iconst dL_small_593 ?_
  refine r_sipush dL_small_594 rfl ?_
  refine r_kX hD5 EV_ok (uX_put G _ 1 0 9999 hD5.1 hD5.2.1 (by decide)) (mk3 (z := 3) (A := as_15) ⟨by decide +kernel, by decide +kernel⟩ rfl) dL_small_597 svX7_put q139 sh0 (ci := 7) rfl rfl rfl ⟨Nat.le_of_ble_eq_true rfl, Nat.le_of_ble_eq_true rfl⟩ (Nat.le_of_ble_eq_true rfl) ⟨Nat.le_of_ble_eq_true rfl, Nat.le_of_ble_eq_true rfl⟩ (fun s6 hD6 => ?_)
  refine r_iconst dL_small_600 ?_
  refine r_icmp_neE (tgt := 631) dL_small_601 (by decide) (rfl) ?_
  refine r_widen (k2 := 977) (n2 := 7206) (Nat.le_of_ble_eq_true rfl) (Nat.le_of_ble_eq_true rfl) ?_
  exact kk _ hD6
set_option maxHeartbeats 1000000 in
set_option maxRecDepth 100000 in
theorem as_p10 (G : GT) {P : Option Value → Sg → Prop} (hP : ∀ s, P (some (I 1)) s) (σ0 σ : Sg) (hD : Done σ0 σ as_15) (kk : ∀ s : Sg, Done σ0 s as_19 → Rn G mL_small (rmD 23 2100 14000) (EV G) (Zn G false SH0 P 2100 14000) false SH0 982 7236 667 [(0, Rf G 0)] [] s) : Rn G mL_small (rmD 23 2100 14000) (EV G) (Zn G false SH0 P 2100 14000) false SH0 977 7206 604 [(0, Rf G 0)] [] σ := by
  refine r_aload_n dL_small_604 rfl rfl ?_
  refine r_kO hD (uX_mend G _ hD.1 hD.2.1) (mk3 (z := (-1)) (A := as_16) ⟨by decide +kernel, by decide +kernel⟩ rfl) dL_small_605 svX7_mend q239 sh0 (ci := 7) rfl rfl rfl ⟨Nat.le_of_ble_eq_true rfl, Nat.le_of_ble_eq_true rfl⟩ (Nat.le_of_ble_eq_true rfl) ⟨Nat.le_of_ble_eq_true rfl, Nat.le_of_ble_eq_true rfl⟩ (fun s1 hD1 => ?_)
  refine r_iconst dL_small_608 ?_
  refine r_icmp_neE (tgt := 631) dL_small_609 (by decide) (rfl) ?_
  refine r_aload_n dL_small_612 rfl rfl ?_
  refine r_iconst dL_small_613 ?_
  refine r_iconst dL_small_614 ?_
  refine r_iconst dL_small_615 ?_
  refine r_kX hD1 EV_ok (uX_put G _ 0 0 3 hD1.1 hD1.2.1 (by decide)) (mk3 (z := 5) (A := as_17) ⟨by decide +kernel, by decide +kernel⟩ rfl) dL_small_616 svX7_put q139 sh0 (ci := 7) rfl rfl rfl ⟨Nat.le_of_ble_eq_true rfl, Nat.le_of_ble_eq_true rfl⟩ (Nat.le_of_ble_eq_true rfl) ⟨Nat.le_of_ble_eq_true rfl, Nat.le_of_ble_eq_true rfl⟩ (fun s2 hD2 => ?_)
  refine r_iconst dL_small_619 ?_
  refine r_icmp_neE (tgt := 631) dL_small_620 (by decide) (rfl) ?_
  refine r_aload_n dL_small_623 rfl rfl ?_
  refine r_iconst dL_small_624 ?_
  refine r_kX hD2 EV_ok (uX_witness G _ 3 hD2.1 hD2.2.1 (by decide)) (mk3 (z := 0) ⟨by decide +kernel, by decide +kernel⟩ oWitness_A) dL_small_625 svX7_witness q467 sh0 (ci := 7) rfl rfl rfl ⟨Nat.le_of_ble_eq_true rfl, Nat.le_of_ble_eq_true rfl⟩ (Nat.le_of_ble_eq_true rfl) ⟨Nat.le_of_ble_eq_true rfl, Nat.le_of_ble_eq_true rfl⟩ (fun s3 hD3 => ?_)
  refine r_if_eq (tgt := 633) dL_small_628 (by decide) (by omega) (fun hb4 => ?_) (fun hb4 => absurd hb4 (by omega))
  refine r_aload_n dL_small_633 rfl rfl ?_
  refine r_iconst dL_small_634 ?_
  refine r_iconst dL_small_635 ?_
  refine r_kX hD3 EV_ok (uX_size G _ 3 4 hD3.1 hD3.2.1 (by decide)) (mk3 (z := 24) (A := as_18) ⟨by decide +kernel, by decide +kernel⟩ rfl) dL_small_636 svX7_size q383 sh0 (ci := 7) rfl rfl rfl ⟨Nat.le_of_ble_eq_true rfl, Nat.le_of_ble_eq_true rfl⟩ (Nat.le_of_ble_eq_true rfl) ⟨Nat.le_of_ble_eq_true rfl, Nat.le_of_ble_eq_true rfl⟩ (fun s5 hD5 => ?_)
  refine r_bipush dL_small_639 rfl ?_
  refine r_icmp_neE (tgt := 766) dL_small_641 (by decide) (rfl) ?_
  refine r_aload_n dL_small_644 rfl rfl ?_
  refine r_iconst dL_small_645 ?_
  refine r_iconst dL_small_646 ?_
  refine r_iconst dL_small_647 ?_
  refine r_iconst dL_small_648 ?_
  refine r_kX hD5 EV_ok (uX_points G _ 0 2 0 1 hD5.1 hD5.2.1 (by decide)) (mk3 (z := 1) (A := as_19) ⟨by decide +kernel, by decide +kernel⟩ rfl) dL_small_649 svX7_points q217 sh0 (ci := 7) rfl rfl rfl ⟨Nat.le_of_ble_eq_true rfl, Nat.le_of_ble_eq_true rfl⟩ (Nat.le_of_ble_eq_true rfl) ⟨Nat.le_of_ble_eq_true rfl, Nat.le_of_ble_eq_true rfl⟩ (fun s6 hD6 => ?_)
  refine r_iconst dL_small_652 ?_
  refine r_icmp_neE (tgt := 766) dL_small_653 (by decide) (rfl) ?_
  refine r_aload_n dL_small_656 rfl rfl ?_
  refine r_iconst dL_small_657 ?_
  refine r_iconst dL_small_658 ?_
  refine r_kX hD6 EV_ok (uX_cell G _ 2 0 hD6.1 hD6.2.1 (by decide)) (mk3 (z := 16) ⟨by decide +kernel, by decide +kernel⟩ oCell_A) dL_small_659 svX7_cell q454 sh0 (ci := 7) rfl rfl rfl ⟨Nat.le_of_ble_eq_true rfl, Nat.le_of_ble_eq_true rfl⟩ (Nat.le_of_ble_eq_true rfl) ⟨Nat.le_of_ble_eq_true rfl, Nat.le_of_ble_eq_true rfl⟩ (fun s7 hD7 => ?_)
  refine r_bipush dL_small_662 rfl ?_
  refine r_icmp_neE (tgt := 766) dL_small_664 (by decide) (rfl) ?_
  refine r_widen (k2 := 982) (n2 := 7236) (Nat.le_of_ble_eq_true rfl) (Nat.le_of_ble_eq_true rfl) ?_
  exact kk _ hD7
set_option maxHeartbeats 1000000 in
set_option maxRecDepth 100000 in
theorem as_p11 (G : GT) {P : Option Value → Sg → Prop} (hP : ∀ s, P (some (I 1)) s) (σ0 σ : Sg) (hD : Done σ0 σ as_19) (kk : ∀ s : Sg, Done σ0 s as_19 → Rn G mL_small (rmD 23 2100 14000) (EV G) (Zn G false SH0 P 2100 14000) false SH0 988 7272 726 [(0, Rf G 0)] [] s) : Rn G mL_small (rmD 23 2100 14000) (EV G) (Zn G false SH0 P 2100 14000) false SH0 982 7236 667 [(0, Rf G 0)] [] σ := by
  refine r_aload_n dL_small_667 rfl rfl ?_
  refine r_iconst dL_small_668 ?_
  refine r_iconst dL_small_669 ?_
  refine r_kX hD EV_ok (uX_cell G _ 1 2 hD.1 hD.2.1 (by decide)) (mk3 (z := 0) ⟨by decide +kernel, by decide +kernel⟩ oCell_A) dL_small_670 svX7_cell q454 sh0 (ci := 7) rfl rfl rfl ⟨Nat.le_of_ble_eq_true rfl, Nat.le_of_ble_eq_true rfl⟩ (Nat.le_of_ble_eq_true rfl) ⟨Nat.le_of_ble_eq_true rfl, Nat.le_of_ble_eq_true rfl⟩ (fun s1 hD1 => ?_)
  refine r_if_ne (tgt := 766) dL_small_673 (by decide) (by omega) (fun hb2 => absurd hb2 (by omega)) (fun hb2 => ?_)
  refine r_aload_n dL_small_676 rfl rfl ?_
  refine r_iconst dL_small_677 ?_
  refine r_iconst dL_small_678 ?_
  refine r_kX hD1 EV_ok (uX_cell G _ 0 3 hD1.1 hD1.2.1 (by decide)) (mk3 (z := 9) ⟨by decide +kernel, by decide +kernel⟩ oCell_A) dL_small_679 svX7_cell q454 sh0 (ci := 7) rfl rfl rfl ⟨Nat.le_of_ble_eq_true rfl, Nat.le_of_ble_eq_true rfl⟩ (Nat.le_of_ble_eq_true rfl) ⟨Nat.le_of_ble_eq_true rfl, Nat.le_of_ble_eq_true rfl⟩ (fun s3 hD3 => ?_)
  refine r_bipush dL_small_682 rfl ?_
  refine r_icmp_neE (tgt := 766) dL_small_684 (by decide) (rfl) ?_
  refine r_aload_n dL_small_687 rfl rfl ?_
  refine r_iconst dL_small_688 ?_
  refine r_iconst dL_small_689 ?_
  refine r_kX hD3 EV_ok (uX_place G _ 0 1 hD3.1 hD3.2.1 (by decide)) (mk3 (z := 0) ⟨by decide +kernel, by decide +kernel⟩ oPlace_A) dL_small_690 svX7_place q458 sh0 (ci := 7) rfl rfl rfl ⟨Nat.le_of_ble_eq_true rfl, Nat.le_of_ble_eq_true rfl⟩ (Nat.le_of_ble_eq_true rfl) ⟨Nat.le_of_ble_eq_true rfl, Nat.le_of_ble_eq_true rfl⟩ (fun s4 hD4 => ?_)
  refine r_if_ne (tgt := 766) dL_small_693 (by decide) (by omega) (fun hb5 => absurd hb5 (by omega)) (fun hb5 => ?_)
  refine r_aload_n dL_small_696 rfl rfl ?_
  refine r_iconst dL_small_697 ?_
  refine r_iconst dL_small_698 ?_
  refine r_kX hD4 EV_ok (uX_place G _ 1 1 hD4.1 hD4.2.1 (by decide)) (mk3 (z := 2) ⟨by decide +kernel, by decide +kernel⟩ oPlace_A) dL_small_699 svX7_place q458 sh0 (ci := 7) rfl rfl rfl ⟨Nat.le_of_ble_eq_true rfl, Nat.le_of_ble_eq_true rfl⟩ (Nat.le_of_ble_eq_true rfl) ⟨Nat.le_of_ble_eq_true rfl, Nat.le_of_ble_eq_true rfl⟩ (fun s6 hD6 => ?_)
  refine r_iconst dL_small_702 ?_
  refine r_icmp_neE (tgt := 766) dL_small_703 (by decide) (rfl) ?_
  refine r_aload_n dL_small_706 rfl rfl ?_
  refine r_iconst dL_small_707 ?_
  refine r_iconst dL_small_708 ?_
  refine r_kX hD6 EV_ok (uX_place G _ 2 2 hD6.1 hD6.2.1 (by decide)) (mk3 (z := 3) ⟨by decide +kernel, by decide +kernel⟩ oPlace_A) dL_small_709 svX7_place q458 sh0 (ci := 7) rfl rfl rfl ⟨Nat.le_of_ble_eq_true rfl, Nat.le_of_ble_eq_true rfl⟩ (Nat.le_of_ble_eq_true rfl) ⟨Nat.le_of_ble_eq_true rfl, Nat.le_of_ble_eq_true rfl⟩ (fun s7 hD7 => ?_)
  refine r_iconst dL_small_712 ?_
  refine r_icmp_neE (tgt := 766) dL_small_713 (by decide) (rfl) ?_
  refine r_aload_n dL_small_716 rfl rfl ?_
  refine r_iconst dL_small_717 ?_
  refine r_kX hD7 EV_ok (uX_looks G _ 1 hD7.1 hD7.2.1 (by decide)) (mk3 (z := 9) ⟨by decide +kernel, by decide +kernel⟩ oLooks_A) dL_small_718 svX7_looks q463 sh0 (ci := 7) rfl rfl rfl ⟨Nat.le_of_ble_eq_true rfl, Nat.le_of_ble_eq_true rfl⟩ (Nat.le_of_ble_eq_true rfl) ⟨Nat.le_of_ble_eq_true rfl, Nat.le_of_ble_eq_true rfl⟩ (fun s8 hD8 => ?_)
  refine r_bipush dL_small_721 rfl ?_
  refine r_icmp_neE (tgt := 766) dL_small_723 (by decide) (rfl) ?_
  refine r_widen (k2 := 988) (n2 := 7272) (Nat.le_of_ble_eq_true rfl) (Nat.le_of_ble_eq_true rfl) ?_
  exact kk _ hD8
set_option maxHeartbeats 1000000 in
set_option maxRecDepth 100000 in
theorem as_p12 (G : GT) {P : Option Value → Sg → Prop} (hP : ∀ s, P (some (I 1)) s) (σ0 σ : Sg) (hD : Done σ0 σ as_19) (kk : ∀ s : Sg, Done σ0 s as_20 → Rn G mL_small (rmD 23 2100 14000) (EV G) (Zn G false SH0 P 2100 14000) false SH0 992 7296 790 [(0, Rf G 0)] [] s) : Rn G mL_small (rmD 23 2100 14000) (EV G) (Zn G false SH0 P 2100 14000) false SH0 988 7272 726 [(0, Rf G 0)] [] σ := by
  refine r_aload_n dL_small_726 rfl rfl ?_
  refine r_iconst dL_small_727 ?_
  refine r_kX hD EV_ok (uX_looks G _ 2 hD.1 hD.2.1 (by decide)) (mk3 (z := 17) ⟨by decide +kernel, by decide +kernel⟩ oLooks_A) dL_small_728 svX7_looks q463 sh0 (ci := 7) rfl rfl rfl ⟨Nat.le_of_ble_eq_true rfl, Nat.le_of_ble_eq_true rfl⟩ (Nat.le_of_ble_eq_true rfl) ⟨Nat.le_of_ble_eq_true rfl, Nat.le_of_ble_eq_true rfl⟩ (fun s1 hD1 => ?_)
  refine r_bipush dL_small_731 rfl ?_
  refine r_icmp_neE (tgt := 766) dL_small_733 (by decide) (rfl) ?_
  refine r_aload_n dL_small_736 rfl rfl ?_
  refine r_kO hD1 (uX_bound G _ hD1.1 hD1.2.1) (mk3 (z := 14) ⟨by decide +kernel, by decide +kernel⟩ oBound_A) dL_small_737 svX7_bound q535 sh0 (ci := 7) rfl rfl rfl ⟨Nat.le_of_ble_eq_true rfl, Nat.le_of_ble_eq_true rfl⟩ (Nat.le_of_ble_eq_true rfl) ⟨Nat.le_of_ble_eq_true rfl, Nat.le_of_ble_eq_true rfl⟩ (fun s2 hD2 => ?_)
  refine r_bipush dL_small_740 rfl ?_
  refine r_icmp_neE (tgt := 766) dL_small_742 (by decide) (rfl) ?_
  refine r_aload_n dL_small_745 rfl rfl ?_
  refine r_iconst dL_small_746 ?_
  refine r_kX hD2 EV_ok (uX_looks G _ 0 hD2.1 hD2.2.1 (by decide)) (mk3 (z := 12) ⟨by decide +kernel, by decide +kernel⟩ oLooks_A) dL_small_747 svX7_looks q463 sh0 (ci := 7) rfl rfl rfl ⟨Nat.le_of_ble_eq_true rfl, Nat.le_of_ble_eq_true rfl⟩ (Nat.le_of_ble_eq_true rfl) ⟨Nat.le_of_ble_eq_true rfl, Nat.le_of_ble_eq_true rfl⟩ (fun s3 hD3 => ?_)
  refine r_bipush dL_small_750 rfl ?_
  refine r_icmp_neE (tgt := 766) dL_small_752 (by decide) (rfl) ?_
  refine r_aload_n dL_small_755 rfl rfl ?_
  refine r_kH hD3 (tX7_halfShare G _ hD3.1) (x := (4604930618986332160 : UInt64)) (by decide +kernel) dL_small_756 svX7_halfShare q553 sh0 (ci := 7) rfl rfl rfl ⟨Nat.le_of_ble_eq_true rfl, Nat.le_of_ble_eq_true rfl⟩ (Nat.le_of_ble_eq_true rfl) ⟨Nat.le_of_ble_eq_true rfl, Nat.le_of_ble_eq_true rfl⟩ (fun s4 hD4 => ?_)
  refine r_ldc2d (z := 4604930618986332160) dL_small_759 q563 ?_
  refine r_dcmpE dL_small_762 (by decide +kernel) ?_
  refine r_if_eq (tgt := 768) dL_small_763 (by decide) (by omega) (fun hb5 => ?_) (fun hb5 => absurd hb5 (by omega))
  refine r_aload_n dL_small_768 rfl rfl ?_
  refine r_iconst dL_small_769 ?_
  refine r_iconst dL_small_770 ?_
  refine r_iconst dL_small_771 ?_
  refine r_iconst dL_small_772 ?_
  refine r_kX hD4 EV_ok (uX_points G _ 4 0 2 1 hD4.1 hD4.2.1 (by decide)) (mk3 (z := 1) (A := as_20) ⟨by decide +kernel, by decide +kernel⟩ rfl) dL_small_773 svX7_points q217 sh0 (ci := 7) rfl rfl rfl ⟨Nat.le_of_ble_eq_true rfl, Nat.le_of_ble_eq_true rfl⟩ (Nat.le_of_ble_eq_true rfl) ⟨Nat.le_of_ble_eq_true rfl, Nat.le_of_ble_eq_true rfl⟩ (fun s6 hD6 => ?_)
  refine r_iconst dL_small_776 ?_
  refine r_icmp_neE (tgt := 902) dL_small_777 (by decide) (rfl) ?_
  refine r_aload_n dL_small_780 rfl rfl ?_
  refine r_iconst dL_small_781 ?_
  refine r_iconst dL_small_782 ?_
  refine r_kX hD6 EV_ok (uX_place G _ 2 0 hD6.1 hD6.2.1 (by decide)) (mk3 (z := 2) ⟨by decide +kernel, by decide +kernel⟩ oPlace_A) dL_small_783 svX7_place q458 sh0 (ci := 7) rfl rfl rfl ⟨Nat.le_of_ble_eq_true rfl, Nat.le_of_ble_eq_true rfl⟩ (Nat.le_of_ble_eq_true rfl) ⟨Nat.le_of_ble_eq_true rfl, Nat.le_of_ble_eq_true rfl⟩ (fun s7 hD7 => ?_)
  refine r_iconst dL_small_786 ?_
  refine r_icmp_neE (tgt := 902) dL_small_787 (by decide) (rfl) ?_
  refine r_widen (k2 := 992) (n2 := 7296) (Nat.le_of_ble_eq_true rfl) (Nat.le_of_ble_eq_true rfl) ?_
  exact kk _ hD7
set_option maxHeartbeats 1000000 in
set_option maxRecDepth 100000 in
theorem as_p13 (G : GT) {P : Option Value → Sg → Prop} (hP : ∀ s, P (some (I 1)) s) (σ0 σ : Sg) (hD : Done σ0 σ as_20) (kk : ∀ s : Sg, Done σ0 s as_22 → Rn G mL_small (rmD 23 2100 14000) (EV G) (Zn G false SH0 P 2100 14000) false SH0 998 7332 864 [(0, Rf G 0)] [] s) : Rn G mL_small (rmD 23 2100 14000) (EV G) (Zn G false SH0 P 2100 14000) false SH0 992 7296 790 [(0, Rf G 0)] [] σ := by
  refine r_aload_n dL_small_790 rfl rfl ?_
  refine r_iconst dL_small_791 ?_
  refine r_iconst dL_small_792 ?_
  refine r_kX hD EV_ok (uX_place G _ 0 2 hD.1 hD.2.1 (by decide)) (mk3 (z := 2) ⟨by decide +kernel, by decide +kernel⟩ oPlace_A) dL_small_793 svX7_place q458 sh0 (ci := 7) rfl rfl rfl ⟨Nat.le_of_ble_eq_true rfl, Nat.le_of_ble_eq_true rfl⟩ (Nat.le_of_ble_eq_true rfl) ⟨Nat.le_of_ble_eq_true rfl, Nat.le_of_ble_eq_true rfl⟩ (fun s1 hD1 => ?_)
  refine r_iconst dL_small_796 ?_
  refine r_icmp_neE (tgt := 902) dL_small_797 (by decide) (rfl) ?_
  refine r_aload_n dL_small_800 rfl rfl ?_
  refine r_iconst dL_small_801 ?_
  refine r_bipush dL_small_802 rfl ?_
  refine r_kX hD1 EV_ok (uX_size G _ 1 10 hD1.1 hD1.2.1 (by decide)) (mk3 (z := 37) (A := as_21) ⟨by decide +kernel, by decide +kernel⟩ rfl) dL_small_804 svX7_size q383 sh0 (ci := 7) rfl rfl rfl ⟨Nat.le_of_ble_eq_true rfl, Nat.le_of_ble_eq_true rfl⟩ (Nat.le_of_ble_eq_true rfl) ⟨Nat.le_of_ble_eq_true rfl, Nat.le_of_ble_eq_true rfl⟩ (fun s2 hD2 => ?_)
  refine r_bipush dL_small_807 rfl ?_
  refine r_icmp_neE (tgt := 902) dL_small_809 (by decide) (rfl) ?_
  refine r_aload_n dL_small_812 rfl rfl ?_
  refine r_iconst dL_small_813 ?_
  refine r_iconst dL_small_814 ?_
  refine r_bipush dL_small_815 rfl ?_
  refine r_bipush dL_small_817 rfl ?_
  refine r_kX hD2 EV_ok (uX_points G _ 0 0 50 9 hD2.1 hD2.2.1 (by decide)) (mk3 (z := 1) (A := as_22) ⟨by decide +kernel, by decide +kernel⟩ rfl) dL_small_819 svX7_points q217 sh0 (ci := 7) rfl rfl rfl ⟨Nat.le_of_ble_eq_true rfl, Nat.le_of_ble_eq_true rfl⟩ (Nat.le_of_ble_eq_true rfl) ⟨Nat.le_of_ble_eq_true rfl, Nat.le_of_ble_eq_true rfl⟩ (fun s3 hD3 => ?_)
  refine r_iconst dL_small_822 ?_
  refine r_icmp_neE (tgt := 902) dL_small_823 (by decide) (rfl) ?_
  refine r_aload_n dL_small_826 rfl rfl ?_
  refine r_iconst dL_small_827 ?_
  refine r_iconst dL_small_828 ?_
  refine r_kX hD3 EV_ok (uX_cell G _ 0 5 hD3.1 hD3.2.1 (by decide)) (mk3 (z := 9025) ⟨by decide +kernel, by decide +kernel⟩ oCell_A) dL_small_829 svX7_cell q454 sh0 (ci := 7) rfl rfl rfl ⟨Nat.le_of_ble_eq_true rfl, Nat.le_of_ble_eq_true rfl⟩ (Nat.le_of_ble_eq_true rfl) ⟨Nat.le_of_ble_eq_true rfl, Nat.le_of_ble_eq_true rfl⟩ (fun s4 hD4 => ?_)
  refine r_sipush dL_small_832 rfl ?_
  refine r_icmp_neE (tgt := 902) dL_small_835 (by decide) (rfl) ?_
  refine r_aload_n dL_small_838 rfl rfl ?_
  refine r_iconst dL_small_839 ?_
  refine r_bipush dL_small_840 rfl ?_
  refine r_kX hD4 EV_ok (uX_cell G _ 0 6 hD4.1 hD4.2.1 (by decide)) (mk3 (z := 9999) ⟨by decide +kernel, by decide +kernel⟩ oCell_A) dL_small_842 svX7_cell q454 sh0 (ci := 7) rfl rfl rfl ⟨Nat.le_of_ble_eq_true rfl, Nat.le_of_ble_eq_true rfl⟩ (Nat.le_of_ble_eq_true rfl) ⟨Nat.le_of_ble_eq_true rfl, Nat.le_of_ble_eq_true rfl⟩ (fun s5 hD5 => ?_)
  refine r_sipush dL_small_845 rfl ?_
  refine r_icmp_neE (tgt := 902) dL_small_848 (by decide) (rfl) ?_
  refine r_aload_n dL_small_851 rfl rfl ?_
  refine r_iconst dL_small_852 ?_
  refine r_bipush dL_small_853 rfl ?_
  refine r_kX hD5 EV_ok (uX_cell G _ 0 9 hD5.1 hD5.2.1 (by decide)) (mk3 (z := 9999) ⟨by decide +kernel, by decide +kernel⟩ oCell_A) dL_small_855 svX7_cell q454 sh0 (ci := 7) rfl rfl rfl ⟨Nat.le_of_ble_eq_true rfl, Nat.le_of_ble_eq_true rfl⟩ (Nat.le_of_ble_eq_true rfl) ⟨Nat.le_of_ble_eq_true rfl, Nat.le_of_ble_eq_true rfl⟩ (fun s6 hD6 => ?_)
  refine r_sipush dL_small_858 rfl ?_
  refine r_icmp_neE (tgt := 902) dL_small_861 (by decide) (rfl) ?_
  refine r_widen (k2 := 998) (n2 := 7332) (Nat.le_of_ble_eq_true rfl) (Nat.le_of_ble_eq_true rfl) ?_
  exact kk _ hD6
set_option maxHeartbeats 1000000 in
set_option maxRecDepth 100000 in
theorem as_p14 (G : GT) {P : Option Value → Sg → Prop} (hP : ∀ s, P (some (I 1)) s) (σ0 σ : Sg) (hD : Done σ0 σ as_22) (kk : ∀ s : Sg, Done σ0 s as_23 → Rn G mL_small (rmD 23 2100 14000) (EV G) (Zn G false SH0 P 2100 14000) false SH0 1003 7362 926 [(0, Rf G 0)] [] s) : Rn G mL_small (rmD 23 2100 14000) (EV G) (Zn G false SH0 P 2100 14000) false SH0 998 7332 864 [(0, Rf G 0)] [] σ := by
  refine r_aload_n dL_small_864 rfl rfl ?_
  refine r_iconst dL_small_865 ?_
  refine r_iconst dL_small_866 ?_
  refine r_kX hD EV_ok (uX_place G _ 0 2 hD.1 hD.2.1 (by decide)) (mk3 (z := 0) ⟨by decide +kernel, by decide +kernel⟩ oPlace_A) dL_small_867 svX7_place q458 sh0 (ci := 7) rfl rfl rfl ⟨Nat.le_of_ble_eq_true rfl, Nat.le_of_ble_eq_true rfl⟩ (Nat.le_of_ble_eq_true rfl) ⟨Nat.le_of_ble_eq_true rfl, Nat.le_of_ble_eq_true rfl⟩ (fun s1 hD1 => ?_)
  refine r_if_ne (tgt := 902) dL_small_870 (by decide) (by omega) (fun hb2 => absurd hb2 (by omega)) (fun hb2 => ?_)
  refine r_aload_n dL_small_873 rfl rfl ?_
  refine r_iconst dL_small_874 ?_
  refine r_kX hD1 EV_ok (uX_looks G _ 1 hD1.1 hD1.2.1 (by decide)) (mk3 (z := 10) ⟨by decide +kernel, by decide +kernel⟩ oLooks_A) dL_small_875 svX7_looks q463 sh0 (ci := 7) rfl rfl rfl ⟨Nat.le_of_ble_eq_true rfl, Nat.le_of_ble_eq_true rfl⟩ (Nat.le_of_ble_eq_true rfl) ⟨Nat.le_of_ble_eq_true rfl, Nat.le_of_ble_eq_true rfl⟩ (fun s3 hD3 => ?_)
  refine r_bipush dL_small_878 rfl ?_
  refine r_icmp_neE (tgt := 902) dL_small_880 (by decide) (rfl) ?_
  refine r_aload_n dL_small_883 rfl rfl ?_
  refine r_iconst dL_small_884 ?_
  refine r_kX hD3 EV_ok (uX_looks G _ 2 hD3.1 hD3.2.1 (by decide)) (mk3 (z := 19) ⟨by decide +kernel, by decide +kernel⟩ oLooks_A) dL_small_885 svX7_looks q463 sh0 (ci := 7) rfl rfl rfl ⟨Nat.le_of_ble_eq_true rfl, Nat.le_of_ble_eq_true rfl⟩ (Nat.le_of_ble_eq_true rfl) ⟨Nat.le_of_ble_eq_true rfl, Nat.le_of_ble_eq_true rfl⟩ (fun s4 hD4 => ?_)
  refine r_bipush dL_small_888 rfl ?_
  refine r_icmp_neE (tgt := 902) dL_small_890 (by decide) (rfl) ?_
  refine r_aload_n dL_small_893 rfl rfl ?_
  refine r_kO hD4 (uX_bound G _ hD4.1 hD4.2.1) (mk3 (z := 11) ⟨by decide +kernel, by decide +kernel⟩ oBound_A) dL_small_894 svX7_bound q535 sh0 (ci := 7) rfl rfl rfl ⟨Nat.le_of_ble_eq_true rfl, Nat.le_of_ble_eq_true rfl⟩ (Nat.le_of_ble_eq_true rfl) ⟨Nat.le_of_ble_eq_true rfl, Nat.le_of_ble_eq_true rfl⟩ (fun s5 hD5 => ?_)
  refine r_bipush dL_small_897 rfl ?_
  refine r_icmp_eqE (tgt := 904) dL_small_899 (by decide) (rfl) ?_
  refine r_aload_n dL_small_904 rfl rfl ?_
  refine r_iconst dL_small_905 ?_
  refine r_bipush dL_small_906 rfl ?_
  refine r_kX hD5 EV_ok (uX_size G _ 2 10 hD5.1 hD5.2.1 (by decide)) (mk3 (z := 21) (A := as_23) ⟨by decide +kernel, by decide +kernel⟩ rfl) dL_small_908 svX7_size q383 sh0 (ci := 7) rfl rfl rfl ⟨Nat.le_of_ble_eq_true rfl, Nat.le_of_ble_eq_true rfl⟩ (Nat.le_of_ble_eq_true rfl) ⟨Nat.le_of_ble_eq_true rfl, Nat.le_of_ble_eq_true rfl⟩ (fun s6 hD6 => ?_)
  refine r_bipush dL_small_911 rfl ?_
  refine r_icmp_neE (tgt := 991) dL_small_913 (by decide) (rfl) ?_
  refine r_aload_n dL_small_916 rfl rfl ?_
  refine r_iconst dL_small_917 ?_
  refine r_iconst dL_small_918 ?_
  refine r_kX hD6 EV_ok (uX_cell G _ 1 0 hD6.1 hD6.2.1 (by decide)) (mk3 (z := 4) ⟨by decide +kernel, by decide +kernel⟩ oCell_A) dL_small_919 svX7_cell q454 sh0 (ci := 7) rfl rfl rfl ⟨Nat.le_of_ble_eq_true rfl, Nat.le_of_ble_eq_true rfl⟩ (Nat.le_of_ble_eq_true rfl) ⟨Nat.le_of_ble_eq_true rfl, Nat.le_of_ble_eq_true rfl⟩ (fun s7 hD7 => ?_)
  refine r_iconst dL_small_922 ?_
  refine r_icmp_neE (tgt := 991) dL_small_923 (by decide) (rfl) ?_
  refine r_widen (k2 := 1003) (n2 := 7362) (Nat.le_of_ble_eq_true rfl) (Nat.le_of_ble_eq_true rfl) ?_
  exact kk _ hD7
set_option maxHeartbeats 1000000 in
set_option maxRecDepth 100000 in
theorem as_p15 (G : GT) {P : Option Value → Sg → Prop} (hP : ∀ s, P (some (I 1)) s) (σ0 σ : Sg) (hD : Done σ0 σ as_23) (kk : ∀ s : Sg, Done σ0 s as_24 → Rn G mL_small (rmD 23 2100 14000) (EV G) (Zn G false SH0 P 2100 14000) false SH0 1009 7398 980 [(0, Rf G 0)] [] s) : Rn G mL_small (rmD 23 2100 14000) (EV G) (Zn G false SH0 P 2100 14000) false SH0 1003 7362 926 [(0, Rf G 0)] [] σ := by
  refine r_aload_n dL_small_926 rfl rfl ?_
  refine r_iconst dL_small_927 ?_
  refine r_iconst dL_small_928 ?_
  refine r_kX hD EV_ok (uX_cell G _ 1 4 hD.1 hD.2.1 (by decide)) (mk3 (z := 0) ⟨by decide +kernel, by decide +kernel⟩ oCell_A) dL_small_929 svX7_cell q454 sh0 (ci := 7) rfl rfl rfl ⟨Nat.le_of_ble_eq_true rfl, Nat.le_of_ble_eq_true rfl⟩ (Nat.le_of_ble_eq_true rfl) ⟨Nat.le_of_ble_eq_true rfl, Nat.le_of_ble_eq_true rfl⟩ (fun s1 hD1 => ?_)
  refine r_if_ne (tgt := 991) dL_small_932 (by decide) (by omega) (fun hb2 => absurd hb2 (by omega)) (fun hb2 => ?_)
  refine r_aload_n dL_small_935 rfl rfl ?_
  refine r_iconst dL_small_936 ?_
  refine r_kX hD1 EV_ok (uX_goBack G _ 0 hD1.1 hD1.2.1 (by decide)) (mk3 (z := 2) (A := as_24) ⟨by decide +kernel, by decide +kernel⟩ rfl) dL_small_937 svX7_goBack q336 sh0 (ci := 7) rfl rfl rfl ⟨Nat.le_of_ble_eq_true rfl, Nat.le_of_ble_eq_true rfl⟩ (Nat.le_of_ble_eq_true rfl) ⟨Nat.le_of_ble_eq_true rfl, Nat.le_of_ble_eq_true rfl⟩ (fun s3 hD3 => ?_)
  refine r_iconst dL_small_940 ?_
  refine r_icmp_neE (tgt := 991) dL_small_941 (by decide) (rfl) ?_
  refine r_aload_n dL_small_944 rfl rfl ?_
  refine r_iconst dL_small_945 ?_
  refine r_kX hD3 EV_ok (uX_count G _ 1 hD3.1 hD3.2.1 (by decide)) (mk3 (z := 2) ⟨by decide +kernel, by decide +kernel⟩ oCount_A) dL_small_946 svX7_count q349 sh0 (ci := 7) rfl rfl rfl ⟨Nat.le_of_ble_eq_true rfl, Nat.le_of_ble_eq_true rfl⟩ (Nat.le_of_ble_eq_true rfl) ⟨Nat.le_of_ble_eq_true rfl, Nat.le_of_ble_eq_true rfl⟩ (fun s4 hD4 => ?_)
  refine r_iconst dL_small_949 ?_
  refine r_icmp_neE (tgt := 991) dL_small_950 (by decide) (rfl) ?_
  refine r_aload_n dL_small_953 rfl rfl ?_
  refine r_iconst dL_small_954 ?_
  refine r_kX hD4 EV_ok (uX_witness G _ 3 hD4.1 hD4.2.1 (by decide)) (mk3 (z := 1) ⟨by decide +kernel, by decide +kernel⟩ oWitness_A) dL_small_955 svX7_witness q467 sh0 (ci := 7) rfl rfl rfl ⟨Nat.le_of_ble_eq_true rfl, Nat.le_of_ble_eq_true rfl⟩ (Nat.le_of_ble_eq_true rfl) ⟨Nat.le_of_ble_eq_true rfl, Nat.le_of_ble_eq_true rfl⟩ (fun s5 hD5 => ?_)
  refine r_iconst dL_small_958 ?_
  refine r_icmp_neE (tgt := 991) dL_small_959 (by decide) (rfl) ?_
  refine r_aload_n dL_small_962 rfl rfl ?_
  refine r_iconst dL_small_963 ?_
  refine r_kX hD5 EV_ok (uX_count G _ 5 hD5.1 hD5.2.1 (by decide)) (mk3 (z := 1) ⟨by decide +kernel, by decide +kernel⟩ oCount_A) dL_small_964 svX7_count q349 sh0 (ci := 7) rfl rfl rfl ⟨Nat.le_of_ble_eq_true rfl, Nat.le_of_ble_eq_true rfl⟩ (Nat.le_of_ble_eq_true rfl) ⟨Nat.le_of_ble_eq_true rfl, Nat.le_of_ble_eq_true rfl⟩ (fun s6 hD6 => ?_)
  refine r_iconst dL_small_967 ?_
  refine r_icmp_neE (tgt := 991) dL_small_968 (by decide) (rfl) ?_
  refine r_aload_n dL_small_971 rfl rfl ?_
  refine r_bipush dL_small_972 rfl ?_
  refine r_kX hD6 EV_ok (uX_count G _ 6 hD6.1 hD6.2.1 (by decide)) (mk3 (z := 0) ⟨by decide +kernel, by decide +kernel⟩ oCount_A) dL_small_974 svX7_count q349 sh0 (ci := 7) rfl rfl rfl ⟨Nat.le_of_ble_eq_true rfl, Nat.le_of_ble_eq_true rfl⟩ (Nat.le_of_ble_eq_true rfl) ⟨Nat.le_of_ble_eq_true rfl, Nat.le_of_ble_eq_true rfl⟩ (fun s7 hD7 => ?_)
  refine r_if_ne (tgt := 991) dL_small_977 (by decide) (by omega) (fun hb8 => absurd hb8 (by omega)) (fun hb8 => ?_)
  refine r_widen (k2 := 1009) (n2 := 7398) (Nat.le_of_ble_eq_true rfl) (Nat.le_of_ble_eq_true rfl) ?_
  exact kk _ hD7
set_option maxHeartbeats 1000000 in
set_option maxRecDepth 100000 in
theorem as_p16 (G : GT) {P : Option Value → Sg → Prop} (hP : ∀ s, P (some (I 1)) s) (σ0 σ : Sg) (hD : Done σ0 σ as_24) : Rn G mL_small (rmD 23 2100 14000) (EV G) (Zn G false SH0 P 2100 14000) false SH0 1009 7398 980 [(0, Rf G 0)] [] σ := by
  refine r_aload_n dL_small_980 rfl rfl ?_
  refine r_kY hD EV_ok (tL_refused G _ hD.1 hD.2.1 (by decide +kernel)) dL_small_981 svL_refused q539 rfl ⟨Nat.le_of_ble_eq_true rfl, Nat.le_of_ble_eq_true rfl⟩ (Nat.le_of_ble_eq_true rfl) ⟨Nat.le_of_ble_eq_true rfl, Nat.le_of_ble_eq_true rfl⟩ (fun s1 hD1 => ?_)
  refine r_if_eq (tgt := 991) dL_small_984 (by decide) (by omega) (fun hb2 => absurd hb2 (by omega)) (fun hb2 => ?_)
  refine r_iconst dL_small_987 ?_
  refine r_goto (tgt := 992) dL_small_988 (by decide) ?_
  refine r_widen (k2 := 2100) (n2 := 14000) (Nat.le_of_ble_eq_true rfl) (Nat.le_of_ble_eq_true rfl) ?_
  exact r_zret dL_small_992 rfl (by first | rfl | decide) (hP _)
set_option maxHeartbeats 1000000 in
set_option maxRecDepth 100000 in
theorem tL_small (G : GT) : CtY G mL_small 23 2100 14000 true false [] SH0 [] (fun _ _ => 0) (fun rv sv => some (I 1) = rv) := by
  refine cty_of (lv := []) (by decide +kernel) (Nat.le_of_ble_eq_true rfl) rfl ?_
  refine r_new (ci := 7) (N := 8) (sh2 := ms0) tyX7 dL_small_0 q16 q17 q1 rfl tyX7_ok ixX7 (a := 0) rfl rfl rfl hfs7 (Nat.le_of_ble_eq_true rfl) (Nat.le_of_ble_eq_true rfl) ?_
  refine r_dup dL_small_3 rfl ?_
  refine r_callA EV_ao (tX7_init_0 G _ (fun q _ => rfl)) dL_small_4 svX7_init q18 rfl ⟨Nat.le_of_ble_eq_true rfl, Nat.le_of_ble_eq_true rfl⟩ (Nat.le_of_ble_eq_true rfl) ⟨Nat.le_of_ble_eq_true rfl, Nat.le_of_ble_eq_true rfl⟩ ?_
  rintro _ s7 ⟨rfl, h7⟩
  refine r_astore_n (lv' := [(0, Rf G 0)]) dL_small_7 rfl (Nat.le_of_ble_eq_true rfl) rfl ?_
  refine r_shE (sh2 := SH0) rfl ?_
  refine r_loose ?_
  refine r_widen (k2 := 46) (n2 := 1620) (Nat.le_of_ble_eq_true rfl) (Nat.le_of_ble_eq_true rfl) ?_
  have hc7 := made_c h7
  have hD : Done s7 s7 A00 := Done.rf hc7.1 hc7.2
  obtain ⟨P, hQ⟩ : ∃ P : Option Value → Sg → Prop, P = (fun rv sv => some (I 1) = rv) := ⟨_, rfl⟩
  rw [← hQ]
  have hP : ∀ s, P (some (I 1)) s := by intro s; rw [hQ]
  refine as_p0 G hP s7 s7 hD (fun v0 k0 => ?_)
  refine as_p1 G hP s7 v0 k0 (fun v1 k1 => ?_)
  refine as_p2 G hP s7 v1 k1 (fun v2 k2 => ?_)
  refine as_p3 G hP s7 v2 k2 (fun v3 k3 => ?_)
  refine as_p4 G hP s7 v3 k3 (fun v4 k4 => ?_)
  refine as_p5 G hP s7 v4 k4 (fun v5 k5 => ?_)
  refine as_p6 G hP s7 v5 k5 (fun v6 k6 => ?_)
  refine as_p7 G hP s7 v6 k6 (fun v7 k7 => ?_)
  refine as_p8 G hP s7 v7 k7 (fun v8 k8 => ?_)
  refine as_p9 G hP s7 v8 k8 (fun v9 k9 => ?_)
  refine as_p10 G hP s7 v9 k9 (fun v10 k10 => ?_)
  refine as_p11 G hP s7 v10 k10 (fun v11 k11 => ?_)
  refine as_p12 G hP s7 v11 k11 (fun v12 k12 => ?_)
  refine as_p13 G hP s7 v12 k12 (fun v13 k13 => ?_)
  refine as_p14 G hP s7 v13 k13 (fun v14 k14 => ?_)
  refine as_p15 G hP s7 v14 k14 (fun v15 k15 => ?_)
  exact as_p16 G hP s7 v15 k15
