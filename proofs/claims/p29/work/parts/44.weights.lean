variable {Ω : List Ob}
def aw_1 : Ab := (oWeigh A00 5).2.2
def aw_2 : Ab := (oWeigh aw_1 3).2.2
def aw_3 : Ab := (oWeigh aw_2 8).2.2
def aw_4 : Ab := (oUnweigh aw_3).2.2
def aw_5 : Ab := (oUnweigh aw_4).2.2
def aw_6 : Ab := (oUnweigh aw_5).2.2
def aw_7 : Ab := (oWeigh aw_6 1).2.2
def aw_8 : Ab := (oWeigh aw_7 1).2.2
def aw_9 : Ab := (oWeigh aw_8 1).2.2
def aw_10 : Ab := (oWeigh aw_9 99).2.2
def aw_11 : Ab := (oWeigh aw_10 99).2.2
def aw_12 : Ab := (oWeigh aw_11 99).2.2
def aw_13 : Ab := (oWeigh aw_12 99).2.2
def aw_14 : Ab := (oWeigh aw_13 99).2.2
def aw_15 : Ab := (oWeigh aw_14 99).2.2
set_option maxHeartbeats 1000000 in
set_option maxRecDepth 100000 in
theorem aw_p0 (G : GT) {P : Option Value → Sg → Prop} (hP : ∀ s, P (some (I 1)) s) (σ0 σ : Sg) (hD : Done σ0 σ A00) (kk : ∀ s : Sg, Done σ0 s aw_3 → Rn G mL_weights (rmD 23 1200 8000) (EV G) (Zn G false SH0 P 1200 8000) false SH0 52 1656 70 [(0, Rf G 0)] [] s) : Rn G mL_weights (rmD 23 1200 8000) (EV G) (Zn G false SH0 P 1200 8000) false SH0 46 1620 8 [(0, Rf G 0)] [] σ := by
  refine r_aload_n dL_weights_8 rfl rfl ?_
  refine r_iconst dL_weights_9 ?_
  refine r_kX hD EV_ok (uX_weigh G _ 5 hD.1 hD.2.1 (by decide)) (mk3 (z := 2) (A := aw_1) ⟨by decide +kernel, by decide +kernel⟩ rfl) dL_weights_10 svX7_weigh q316 sh0 (ci := 7) rfl rfl rfl ⟨Nat.le_of_ble_eq_true rfl, Nat.le_of_ble_eq_true rfl⟩ (Nat.le_of_ble_eq_true rfl) ⟨Nat.le_of_ble_eq_true rfl, Nat.le_of_ble_eq_true rfl⟩ (fun s1 hD1 => ?_)
  refine r_iconst dL_weights_13 ?_
  refine r_icmp_neE (tgt := 234) dL_weights_14 (by decide) (rfl) ?_
  refine r_aload_n dL_weights_17 rfl rfl ?_
  refine r_iconst dL_weights_18 ?_
  refine r_kX hD1 EV_ok (uX_weigh G _ 3 hD1.1 hD1.2.1 (by decide)) (mk3 (z := 3) (A := aw_2) ⟨by decide +kernel, by decide +kernel⟩ rfl) dL_weights_19 svX7_weigh q316 sh0 (ci := 7) rfl rfl rfl ⟨Nat.le_of_ble_eq_true rfl, Nat.le_of_ble_eq_true rfl⟩ (Nat.le_of_ble_eq_true rfl) ⟨Nat.le_of_ble_eq_true rfl, Nat.le_of_ble_eq_true rfl⟩ (fun s2 hD2 => ?_)
  refine r_iconst dL_weights_22 ?_
  refine r_icmp_neE (tgt := 234) dL_weights_23 (by decide) (rfl) ?_
  refine r_aload_n dL_weights_26 rfl rfl ?_
  refine r_bipush dL_weights_27 rfl ?_
  refine r_kX hD2 EV_ok (uX_weigh G _ 8 hD2.1 hD2.2.1 (by decide)) (mk3 (z := 4) (A := aw_3) ⟨by decide +kernel, by decide +kernel⟩ rfl) dL_weights_29 svX7_weigh q316 sh0 (ci := 7) rfl rfl rfl ⟨Nat.le_of_ble_eq_true rfl, Nat.le_of_ble_eq_true rfl⟩ (Nat.le_of_ble_eq_true rfl) ⟨Nat.le_of_ble_eq_true rfl, Nat.le_of_ble_eq_true rfl⟩ (fun s3 hD3 => ?_)
  refine r_iconst dL_weights_32 ?_
  refine r_icmp_neE (tgt := 234) dL_weights_33 (by decide) (rfl) ?_
  refine r_aload_n dL_weights_36 rfl rfl ?_
  refine r_iconst dL_weights_37 ?_
  refine r_kX hD3 EV_ok (uX_count G _ 3 hD3.1 hD3.2.1 (by decide)) (mk3 (z := 17) ⟨by decide +kernel, by decide +kernel⟩ oCount_A) dL_weights_38 svX7_count q349 sh0 (ci := 7) rfl rfl rfl ⟨Nat.le_of_ble_eq_true rfl, Nat.le_of_ble_eq_true rfl⟩ (Nat.le_of_ble_eq_true rfl) ⟨Nat.le_of_ble_eq_true rfl, Nat.le_of_ble_eq_true rfl⟩ (fun s4 hD4 => ?_)
  refine r_bipush dL_weights_41 rfl ?_
  refine r_icmp_neE (tgt := 234) dL_weights_43 (by decide) (rfl) ?_
  refine r_aload_n dL_weights_46 rfl rfl ?_
  refine r_iconst dL_weights_47 ?_
  refine r_iconst dL_weights_48 ?_
  refine r_kX hD4 EV_ok (uX_cost G _ 1 0 hD4.1 hD4.2.1 (by decide)) (mk3 (z := 289) ⟨by decide +kernel, by decide +kernel⟩ oCost_A) dL_weights_49 svX7_cost q479 sh0 (ci := 7) rfl rfl rfl ⟨Nat.le_of_ble_eq_true rfl, Nat.le_of_ble_eq_true rfl⟩ (Nat.le_of_ble_eq_true rfl) ⟨Nat.le_of_ble_eq_true rfl, Nat.le_of_ble_eq_true rfl⟩ (fun s5 hD5 => ?_)
  refine r_sipush dL_weights_52 rfl ?_
  refine r_icmp_neE (tgt := 234) dL_weights_55 (by decide) (rfl) ?_
  refine r_aload_n dL_weights_58 rfl rfl ?_
  refine r_iconst dL_weights_59 ?_
  refine r_iconst dL_weights_60 ?_
  refine r_kX hD5 EV_ok (uX_cost G _ 2 0 hD5.1 hD5.2.1 (by decide)) (mk3 (z := 145) ⟨by decide +kernel, by decide +kernel⟩ oCost_A) dL_weights_61 svX7_cost q479 sh0 (ci := 7) rfl rfl rfl ⟨Nat.le_of_ble_eq_true rfl, Nat.le_of_ble_eq_true rfl⟩ (Nat.le_of_ble_eq_true rfl) ⟨Nat.le_of_ble_eq_true rfl, Nat.le_of_ble_eq_true rfl⟩ (fun s6 hD6 => ?_)
  refine r_sipush dL_weights_64 rfl ?_
  refine r_icmp_neE (tgt := 234) dL_weights_67 (by decide) (rfl) ?_
  refine r_widen (k2 := 52) (n2 := 1656) (Nat.le_of_ble_eq_true rfl) (Nat.le_of_ble_eq_true rfl) ?_
  exact kk _ hD6
set_option maxHeartbeats 1000000 in
set_option maxRecDepth 100000 in
theorem aw_p1 (G : GT) {P : Option Value → Sg → Prop} (hP : ∀ s, P (some (I 1)) s) (σ0 σ : Sg) (hD : Done σ0 σ aw_3) (kk : ∀ s : Sg, Done σ0 s aw_3 → Rn G mL_weights (rmD 23 1200 8000) (EV G) (Zn G false SH0 P 1200 8000) false SH0 58 1692 133 [(0, Rf G 0)] [] s) : Rn G mL_weights (rmD 23 1200 8000) (EV G) (Zn G false SH0 P 1200 8000) false SH0 52 1656 70 [(0, Rf G 0)] [] σ := by
  refine r_aload_n dL_weights_70 rfl rfl ?_
  refine r_iconst dL_weights_71 ?_
  refine r_iconst dL_weights_72 ?_
  refine r_kX hD EV_ok (uX_cost G _ 2 1 hD.1 hD.2.1 (by decide)) (mk3 (z := 145) ⟨by decide +kernel, by decide +kernel⟩ oCost_A) dL_weights_73 svX7_cost q479 sh0 (ci := 7) rfl rfl rfl ⟨Nat.le_of_ble_eq_true rfl, Nat.le_of_ble_eq_true rfl⟩ (Nat.le_of_ble_eq_true rfl) ⟨Nat.le_of_ble_eq_true rfl, Nat.le_of_ble_eq_true rfl⟩ (fun s1 hD1 => ?_)
  refine r_sipush dL_weights_76 rfl ?_
  refine r_icmp_neE (tgt := 234) dL_weights_79 (by decide) (rfl) ?_
  refine r_aload_n dL_weights_82 rfl rfl ?_
  refine r_iconst dL_weights_83 ?_
  refine r_iconst dL_weights_84 ?_
  refine r_kX hD1 EV_ok (uX_cut G _ 2 0 hD1.1 hD1.2.1 (by decide)) (mk3 (z := 3) ⟨by decide +kernel, by decide +kernel⟩ oCut_A) dL_weights_85 svX7_cut q511 sh0 (ci := 7) rfl rfl rfl ⟨Nat.le_of_ble_eq_true rfl, Nat.le_of_ble_eq_true rfl⟩ (Nat.le_of_ble_eq_true rfl) ⟨Nat.le_of_ble_eq_true rfl, Nat.le_of_ble_eq_true rfl⟩ (fun s2 hD2 => ?_)
  refine r_iconst dL_weights_88 ?_
  refine r_icmp_neE (tgt := 234) dL_weights_89 (by decide) (rfl) ?_
  refine r_aload_n dL_weights_92 rfl rfl ?_
  refine r_iconst dL_weights_93 ?_
  refine r_iconst dL_weights_94 ?_
  refine r_kX hD2 EV_ok (uX_cost G _ 3 0 hD2.1 hD2.2.1 (by decide)) (mk3 (z := 109) ⟨by decide +kernel, by decide +kernel⟩ oCost_A) dL_weights_95 svX7_cost q479 sh0 (ci := 7) rfl rfl rfl ⟨Nat.le_of_ble_eq_true rfl, Nat.le_of_ble_eq_true rfl⟩ (Nat.le_of_ble_eq_true rfl) ⟨Nat.le_of_ble_eq_true rfl, Nat.le_of_ble_eq_true rfl⟩ (fun s3 hD3 => ?_)
  refine r_bipush dL_weights_98 rfl ?_
  refine r_icmp_neE (tgt := 234) dL_weights_100 (by decide) (rfl) ?_
  refine r_aload_n dL_weights_103 rfl rfl ?_
  refine r_iconst dL_weights_104 ?_
  refine r_iconst dL_weights_105 ?_
  refine r_kX hD3 EV_ok (uX_cut G _ 3 0 hD3.1 hD3.2.1 (by decide)) (mk3 (z := 2) ⟨by decide +kernel, by decide +kernel⟩ oCut_A) dL_weights_106 svX7_cut q511 sh0 (ci := 7) rfl rfl rfl ⟨Nat.le_of_ble_eq_true rfl, Nat.le_of_ble_eq_true rfl⟩ (Nat.le_of_ble_eq_true rfl) ⟨Nat.le_of_ble_eq_true rfl, Nat.le_of_ble_eq_true rfl⟩ (fun s4 hD4 => ?_)
  refine r_iconst dL_weights_109 ?_
  refine r_icmp_neE (tgt := 234) dL_weights_110 (by decide) (rfl) ?_
  refine r_aload_n dL_weights_113 rfl rfl ?_
  refine r_iconst dL_weights_114 ?_
  refine r_iconst dL_weights_115 ?_
  refine r_kX hD4 EV_ok (uX_cut G _ 3 1 hD4.1 hD4.2.1 (by decide)) (mk3 (z := 3) ⟨by decide +kernel, by decide +kernel⟩ oCut_A) dL_weights_116 svX7_cut q511 sh0 (ci := 7) rfl rfl rfl ⟨Nat.le_of_ble_eq_true rfl, Nat.le_of_ble_eq_true rfl⟩ (Nat.le_of_ble_eq_true rfl) ⟨Nat.le_of_ble_eq_true rfl, Nat.le_of_ble_eq_true rfl⟩ (fun s5 hD5 => ?_)
  refine r_iconst dL_weights_119 ?_
  refine r_icmp_neE (tgt := 234) dL_weights_120 (by decide) (rfl) ?_
  refine r_aload_n dL_weights_123 rfl rfl ?_
  refine r_iconst dL_weights_124 ?_
  refine r_iconst dL_weights_125 ?_
  refine r_kX hD5 EV_ok (uX_cut G _ 3 2 hD5.1 hD5.2.1 (by decide)) (mk3 (z := (-1)) ⟨by decide +kernel, by decide +kernel⟩ oCut_A) dL_weights_126 svX7_cut q511 sh0 (ci := 7) rfl rfl rfl ⟨Nat.le_of_ble_eq_true rfl, Nat.le_of_ble_eq_true rfl⟩ (Nat.le_of_ble_eq_true rfl) ⟨Nat.le_of_ble_eq_true rfl, Nat.le_of_ble_eq_true rfl⟩ (fun s6 hD6 => ?_)
  refine r_iconst dL_weights_129 ?_
  refine r_icmp_neE (tgt := 234) dL_weights_130 (by decide) (rfl) ?_
  refine r_widen (k2 := 58) (n2 := 1692) (Nat.le_of_ble_eq_true rfl) (Nat.le_of_ble_eq_true rfl) ?_
  exact kk _ hD6
set_option maxHeartbeats 1000000 in
set_option maxRecDepth 100000 in
theorem aw_p2 (G : GT) {P : Option Value → Sg → Prop} (hP : ∀ s, P (some (I 1)) s) (σ0 σ : Sg) (hD : Done σ0 σ aw_3) (kk : ∀ s : Sg, Done σ0 s aw_3 → Rn G mL_weights (rmD 23 1200 8000) (EV G) (Zn G false SH0 P 1200 8000) false SH0 64 1728 196 [(0, Rf G 0)] [] s) : Rn G mL_weights (rmD 23 1200 8000) (EV G) (Zn G false SH0 P 1200 8000) false SH0 58 1692 133 [(0, Rf G 0)] [] σ := by
  refine r_aload_n dL_weights_133 rfl rfl ?_
  refine r_iconst dL_weights_134 ?_
  refine r_iconst dL_weights_135 ?_
  refine r_kX hD EV_ok (uX_cost G _ 4 1 hD.1 hD.2.1 (by decide)) (mk3 (z := 99) ⟨by decide +kernel, by decide +kernel⟩ oCost_A) dL_weights_136 svX7_cost q479 sh0 (ci := 7) rfl rfl rfl ⟨Nat.le_of_ble_eq_true rfl, Nat.le_of_ble_eq_true rfl⟩ (Nat.le_of_ble_eq_true rfl) ⟨Nat.le_of_ble_eq_true rfl, Nat.le_of_ble_eq_true rfl⟩ (fun s1 hD1 => ?_)
  refine r_bipush dL_weights_139 rfl ?_
  refine r_icmp_neE (tgt := 234) dL_weights_141 (by decide) (rfl) ?_
  refine r_aload_n dL_weights_144 rfl rfl ?_
  refine r_iconst dL_weights_145 ?_
  refine r_iconst dL_weights_146 ?_
  refine r_kX hD1 EV_ok (uX_cut G _ 4 0 hD1.1 hD1.2.1 (by decide)) (mk3 (z := 1) ⟨by decide +kernel, by decide +kernel⟩ oCut_A) dL_weights_147 svX7_cut q511 sh0 (ci := 7) rfl rfl rfl ⟨Nat.le_of_ble_eq_true rfl, Nat.le_of_ble_eq_true rfl⟩ (Nat.le_of_ble_eq_true rfl) ⟨Nat.le_of_ble_eq_true rfl, Nat.le_of_ble_eq_true rfl⟩ (fun s2 hD2 => ?_)
  refine r_iconst dL_weights_150 ?_
  refine r_icmp_neE (tgt := 234) dL_weights_151 (by decide) (rfl) ?_
  refine r_aload_n dL_weights_154 rfl rfl ?_
  refine r_iconst dL_weights_155 ?_
  refine r_iconst dL_weights_156 ?_
  refine r_kX hD2 EV_ok (uX_cut G _ 4 2 hD2.1 hD2.2.1 (by decide)) (mk3 (z := 3) ⟨by decide +kernel, by decide +kernel⟩ oCut_A) dL_weights_157 svX7_cut q511 sh0 (ci := 7) rfl rfl rfl ⟨Nat.le_of_ble_eq_true rfl, Nat.le_of_ble_eq_true rfl⟩ (Nat.le_of_ble_eq_true rfl) ⟨Nat.le_of_ble_eq_true rfl, Nat.le_of_ble_eq_true rfl⟩ (fun s3 hD3 => ?_)
  refine r_iconst dL_weights_160 ?_
  refine r_icmp_neE (tgt := 234) dL_weights_161 (by decide) (rfl) ?_
  refine r_aload_n dL_weights_164 rfl rfl ?_
  refine r_iconst dL_weights_165 ?_
  refine r_iconst dL_weights_166 ?_
  refine r_kX hD3 EV_ok (uX_cut G _ 1 0 hD3.1 hD3.2.1 (by decide)) (mk3 (z := (-1)) ⟨by decide +kernel, by decide +kernel⟩ oCut_A) dL_weights_167 svX7_cut q511 sh0 (ci := 7) rfl rfl rfl ⟨Nat.le_of_ble_eq_true rfl, Nat.le_of_ble_eq_true rfl⟩ (Nat.le_of_ble_eq_true rfl) ⟨Nat.le_of_ble_eq_true rfl, Nat.le_of_ble_eq_true rfl⟩ (fun s4 hD4 => ?_)
  refine r_iconst dL_weights_170 ?_
  refine r_icmp_neE (tgt := 234) dL_weights_171 (by decide) (rfl) ?_
  refine r_aload_n dL_weights_174 rfl rfl ?_
  refine r_sipush dL_weights_175 rfl ?_
  refine r_kX hD4 EV_ok (uX_fewestParts G _ 289 hD4.1 hD4.2.1 (by decide)) (mk3 (z := 1) ⟨by decide +kernel, by decide +kernel⟩ oFewest_A) dL_weights_178 svX7_fewestParts q519 sh0 (ci := 7) rfl rfl rfl ⟨Nat.le_of_ble_eq_true rfl, Nat.le_of_ble_eq_true rfl⟩ (Nat.le_of_ble_eq_true rfl) ⟨Nat.le_of_ble_eq_true rfl, Nat.le_of_ble_eq_true rfl⟩ (fun s5 hD5 => ?_)
  refine r_iconst dL_weights_181 ?_
  refine r_icmp_neE (tgt := 234) dL_weights_182 (by decide) (rfl) ?_
  refine r_aload_n dL_weights_185 rfl rfl ?_
  refine r_sipush dL_weights_186 rfl ?_
  refine r_kX hD5 EV_ok (uX_fewestParts G _ 288 hD5.1 hD5.2.1 (by decide)) (mk3 (z := 2) ⟨by decide +kernel, by decide +kernel⟩ oFewest_A) dL_weights_189 svX7_fewestParts q519 sh0 (ci := 7) rfl rfl rfl ⟨Nat.le_of_ble_eq_true rfl, Nat.le_of_ble_eq_true rfl⟩ (Nat.le_of_ble_eq_true rfl) ⟨Nat.le_of_ble_eq_true rfl, Nat.le_of_ble_eq_true rfl⟩ (fun s6 hD6 => ?_)
  refine r_iconst dL_weights_192 ?_
  refine r_icmp_neE (tgt := 234) dL_weights_193 (by decide) (rfl) ?_
  refine r_widen (k2 := 64) (n2 := 1728) (Nat.le_of_ble_eq_true rfl) (Nat.le_of_ble_eq_true rfl) ?_
  exact kk _ hD6
set_option maxHeartbeats 1000000 in
set_option maxRecDepth 100000 in
theorem aw_p3 (G : GT) {P : Option Value → Sg → Prop} (hP : ∀ s, P (some (I 1)) s) (σ0 σ : Sg) (hD : Done σ0 σ aw_3) (kk : ∀ s : Sg, Done σ0 s aw_5 → Rn G mL_weights (rmD 23 1200 8000) (EV G) (Zn G false SH0 P 1200 8000) false SH0 949 7038 253 [(0, Rf G 0)] [] s) : Rn G mL_weights (rmD 23 1200 8000) (EV G) (Zn G false SH0 P 1200 8000) false SH0 64 1728 196 [(0, Rf G 0)] [] σ := by
  refine r_aload_n dL_weights_196 rfl rfl ?_
  refine r_sipush dL_weights_197 rfl ?_
  refine r_kX hD EV_ok (uX_fewestParts G _ 144 hD.1 hD.2.1 (by decide)) (mk3 (z := 3) ⟨by decide +kernel, by decide +kernel⟩ oFewest_A) dL_weights_200 svX7_fewestParts q519 sh0 (ci := 7) rfl rfl rfl ⟨Nat.le_of_ble_eq_true rfl, Nat.le_of_ble_eq_true rfl⟩ (Nat.le_of_ble_eq_true rfl) ⟨Nat.le_of_ble_eq_true rfl, Nat.le_of_ble_eq_true rfl⟩ (fun s1 hD1 => ?_)
  refine r_iconst dL_weights_203 ?_
  refine r_icmp_neE (tgt := 234) dL_weights_204 (by decide) (rfl) ?_
  refine r_aload_n dL_weights_207 rfl rfl ?_
  refine r_bipush dL_weights_208 rfl ?_
  refine r_kX hD1 EV_ok (uX_fewestParts G _ 99 hD1.1 hD1.2.1 (by decide)) (mk3 (z := 4) ⟨by decide +kernel, by decide +kernel⟩ oFewest_A) dL_weights_210 svX7_fewestParts q519 sh0 (ci := 7) rfl rfl rfl ⟨Nat.le_of_ble_eq_true rfl, Nat.le_of_ble_eq_true rfl⟩ (Nat.le_of_ble_eq_true rfl) ⟨Nat.le_of_ble_eq_true rfl, Nat.le_of_ble_eq_true rfl⟩ (fun s2 hD2 => ?_)
  refine r_iconst dL_weights_213 ?_
  refine r_icmp_neE (tgt := 234) dL_weights_214 (by decide) (rfl) ?_
  refine r_aload_n dL_weights_217 rfl rfl ?_
  refine r_bipush dL_weights_218 rfl ?_
  refine r_kX hD2 EV_ok (uX_fewestParts G _ 98 hD2.1 hD2.2.1 (by decide)) (mk3 (z := (-1)) ⟨by decide +kernel, by decide +kernel⟩ oFewest_A) dL_weights_220 svX7_fewestParts q519 sh0 (ci := 7) rfl rfl rfl ⟨Nat.le_of_ble_eq_true rfl, Nat.le_of_ble_eq_true rfl⟩ (Nat.le_of_ble_eq_true rfl) ⟨Nat.le_of_ble_eq_true rfl, Nat.le_of_ble_eq_true rfl⟩ (fun s3 hD3 => ?_)
  refine r_iconst dL_weights_223 ?_
  refine r_icmp_neE (tgt := 234) dL_weights_224 (by decide) (rfl) ?_
  refine r_aload_n dL_weights_227 rfl rfl ?_
  refine r_kY hD3 EV_ok (tL_refused G _ hD3.1 hD3.2.1 (by decide +kernel)) dL_weights_228 svL_refused q539 rfl ⟨Nat.le_of_ble_eq_true rfl, Nat.le_of_ble_eq_true rfl⟩ (Nat.le_of_ble_eq_true rfl) ⟨Nat.le_of_ble_eq_true rfl, Nat.le_of_ble_eq_true rfl⟩ (fun s4 hD4 => ?_)
  refine r_if_ne (tgt := 236) dL_weights_231 (by decide) (by omega) (fun hb5 => ?_) (fun hb5 => absurd hb5 (by omega))
  refine r_aload_n dL_weights_236 rfl rfl ?_
  refine r_kX hD4 EV_ok (uX_unweigh G _ hD4.1 hD4.2.1) (mk3 (z := 8) (A := aw_4) ⟨by decide +kernel, by decide +kernel⟩ rfl) dL_weights_237 svX7_unweigh q391 sh0 (ci := 7) rfl rfl rfl ⟨Nat.le_of_ble_eq_true rfl, Nat.le_of_ble_eq_true rfl⟩ (Nat.le_of_ble_eq_true rfl) ⟨Nat.le_of_ble_eq_true rfl, Nat.le_of_ble_eq_true rfl⟩ (fun s6 hD6 => ?_)
  refine r_bipush dL_weights_240 rfl ?_
  refine r_icmp_neE (tgt := 374) dL_weights_242 (by decide) (rfl) ?_
  refine r_aload_n dL_weights_245 rfl rfl ?_
  refine r_kX hD6 EV_ok (uX_unweigh G _ hD6.1 hD6.2.1) (mk3 (z := 3) (A := aw_5) ⟨by decide +kernel, by decide +kernel⟩ rfl) dL_weights_246 svX7_unweigh q391 sh0 (ci := 7) rfl rfl rfl ⟨Nat.le_of_ble_eq_true rfl, Nat.le_of_ble_eq_true rfl⟩ (Nat.le_of_ble_eq_true rfl) ⟨Nat.le_of_ble_eq_true rfl, Nat.le_of_ble_eq_true rfl⟩ (fun s7 hD7 => ?_)
  refine r_iconst dL_weights_249 ?_
  refine r_icmp_neE (tgt := 374) dL_weights_250 (by decide) (rfl) ?_
  refine r_widen (k2 := 949) (n2 := 7038) (Nat.le_of_ble_eq_true rfl) (Nat.le_of_ble_eq_true rfl) ?_
  exact kk _ hD7
set_option maxHeartbeats 1000000 in
set_option maxRecDepth 100000 in
theorem aw_p4 (G : GT) {P : Option Value → Sg → Prop} (hP : ∀ s, P (some (I 1)) s) (σ0 σ : Sg) (hD : Done σ0 σ aw_5) (kk : ∀ s : Sg, Done σ0 s aw_8 → Rn G mL_weights (rmD 23 1200 8000) (EV G) (Zn G false SH0 P 1200 8000) false SH0 955 7074 313 [(0, Rf G 0)] [] s) : Rn G mL_weights (rmD 23 1200 8000) (EV G) (Zn G false SH0 P 1200 8000) false SH0 949 7038 253 [(0, Rf G 0)] [] σ := by
  refine r_aload_n dL_weights_253 rfl rfl ?_
  refine r_kX hD EV_ok (uX_unweigh G _ hD.1 hD.2.1) (mk3 (z := 5) (A := aw_6) ⟨by decide +kernel, by decide +kernel⟩ rfl) dL_weights_254 svX7_unweigh q391 sh0 (ci := 7) rfl rfl rfl ⟨Nat.le_of_ble_eq_true rfl, Nat.le_of_ble_eq_true rfl⟩ (Nat.le_of_ble_eq_true rfl) ⟨Nat.le_of_ble_eq_true rfl, Nat.le_of_ble_eq_true rfl⟩ (fun s1 hD1 => ?_)
  refine r_iconst dL_weights_257 ?_
  refine r_icmp_neE (tgt := 374) dL_weights_258 (by decide) (rfl) ?_
  refine r_aload_n dL_weights_261 rfl rfl ?_
  refine r_iconst dL_weights_262 ?_
  refine r_iconst dL_weights_263 ?_
  refine r_iconst dL_weights_264 ?_
  refine r_iconst dL_weights_265 ?_
  refine r_iconst dL_weights_266 ?_
  refine r_kC hD1 EV_ok (tL_call5 G _ 0 0 0 0 hD1.1 hD1.2.1) (z := (-13)) (by decide +kernel) (oUnweigh_x (by decide +kernel)) dL_weights_267 q378 q0 q379 pd_call q377 rfl ⟨Nat.le_of_ble_eq_true rfl, Nat.le_of_ble_eq_true rfl⟩ (Nat.le_of_ble_eq_true rfl) ⟨Nat.le_of_ble_eq_true rfl, Nat.le_of_ble_eq_true rfl⟩ (fun s2 hD2 => ?_)
  refine r_bipush dL_weights_270 rfl ?_
  refine r_icmp_neE (tgt := 374) dL_weights_272 (by decide) (rfl) ?_
  refine r_aload_n dL_weights_275 rfl rfl ?_
  refine r_iconst dL_weights_276 ?_
  refine r_kX hD2 EV_ok (uX_weigh G _ 1 hD2.1 hD2.2.1 (by decide)) (mk3 (z := 2) (A := aw_7) ⟨by decide +kernel, by decide +kernel⟩ rfl) dL_weights_277 svX7_weigh q316 sh0 (ci := 7) rfl rfl rfl ⟨Nat.le_of_ble_eq_true rfl, Nat.le_of_ble_eq_true rfl⟩ (Nat.le_of_ble_eq_true rfl) ⟨Nat.le_of_ble_eq_true rfl, Nat.le_of_ble_eq_true rfl⟩ (fun s3 hD3 => ?_)
  refine r_iconst dL_weights_280 ?_
  refine r_icmp_neE (tgt := 374) dL_weights_281 (by decide) (rfl) ?_
  refine r_aload_n dL_weights_284 rfl rfl ?_
  refine r_iconst dL_weights_285 ?_
  refine r_kX hD3 EV_ok (uX_weigh G _ 1 hD3.1 hD3.2.1 (by decide)) (mk3 (z := 3) (A := aw_8) ⟨by decide +kernel, by decide +kernel⟩ rfl) dL_weights_286 svX7_weigh q316 sh0 (ci := 7) rfl rfl rfl ⟨Nat.le_of_ble_eq_true rfl, Nat.le_of_ble_eq_true rfl⟩ (Nat.le_of_ble_eq_true rfl) ⟨Nat.le_of_ble_eq_true rfl, Nat.le_of_ble_eq_true rfl⟩ (fun s4 hD4 => ?_)
  refine r_iconst dL_weights_289 ?_
  refine r_icmp_neE (tgt := 374) dL_weights_290 (by decide) (rfl) ?_
  refine r_aload_n dL_weights_293 rfl rfl ?_
  refine r_iconst dL_weights_294 ?_
  refine r_iconst dL_weights_295 ?_
  refine r_kX hD4 EV_ok (uX_cost G _ 2 0 hD4.1 hD4.2.1 (by decide)) (mk3 (z := 5) ⟨by decide +kernel, by decide +kernel⟩ oCost_A) dL_weights_296 svX7_cost q479 sh0 (ci := 7) rfl rfl rfl ⟨Nat.le_of_ble_eq_true rfl, Nat.le_of_ble_eq_true rfl⟩ (Nat.le_of_ble_eq_true rfl) ⟨Nat.le_of_ble_eq_true rfl, Nat.le_of_ble_eq_true rfl⟩ (fun s5 hD5 => ?_)
  refine r_iconst dL_weights_299 ?_
  refine r_icmp_neE (tgt := 374) dL_weights_300 (by decide) (rfl) ?_
  refine r_aload_n dL_weights_303 rfl rfl ?_
  refine r_iconst dL_weights_304 ?_
  refine r_iconst dL_weights_305 ?_
  refine r_kX hD5 EV_ok (uX_cut G _ 2 0 hD5.1 hD5.2.1 (by decide)) (mk3 (z := 1) ⟨by decide +kernel, by decide +kernel⟩ oCut_A) dL_weights_306 svX7_cut q511 sh0 (ci := 7) rfl rfl rfl ⟨Nat.le_of_ble_eq_true rfl, Nat.le_of_ble_eq_true rfl⟩ (Nat.le_of_ble_eq_true rfl) ⟨Nat.le_of_ble_eq_true rfl, Nat.le_of_ble_eq_true rfl⟩ (fun s6 hD6 => ?_)
  refine r_iconst dL_weights_309 ?_
  refine r_icmp_neE (tgt := 374) dL_weights_310 (by decide) (rfl) ?_
  refine r_widen (k2 := 955) (n2 := 7074) (Nat.le_of_ble_eq_true rfl) (Nat.le_of_ble_eq_true rfl) ?_
  exact kk _ hD6
set_option maxHeartbeats 1000000 in
set_option maxRecDepth 100000 in
theorem aw_p5 (G : GT) {P : Option Value → Sg → Prop} (hP : ∀ s, P (some (I 1)) s) (σ0 σ : Sg) (hD : Done σ0 σ aw_8) (kk : ∀ s : Sg, Done σ0 s aw_9 → Rn G mL_weights (rmD 23 1200 8000) (EV G) (Zn G false SH0 P 1200 8000) false SH0 961 7110 376 [(0, Rf G 0)] [] s) : Rn G mL_weights (rmD 23 1200 8000) (EV G) (Zn G false SH0 P 1200 8000) false SH0 955 7074 313 [(0, Rf G 0)] [] σ := by
  refine r_aload_n dL_weights_313 rfl rfl ?_
  refine r_iconst dL_weights_314 ?_
  refine r_kX hD EV_ok (uX_weigh G _ 1 hD.1 hD.2.1 (by decide)) (mk3 (z := 4) (A := aw_9) ⟨by decide +kernel, by decide +kernel⟩ rfl) dL_weights_315 svX7_weigh q316 sh0 (ci := 7) rfl rfl rfl ⟨Nat.le_of_ble_eq_true rfl, Nat.le_of_ble_eq_true rfl⟩ (Nat.le_of_ble_eq_true rfl) ⟨Nat.le_of_ble_eq_true rfl, Nat.le_of_ble_eq_true rfl⟩ (fun s1 hD1 => ?_)
  refine r_iconst dL_weights_318 ?_
  refine r_icmp_neE (tgt := 374) dL_weights_319 (by decide) (rfl) ?_
  refine r_aload_n dL_weights_322 rfl rfl ?_
  refine r_iconst dL_weights_323 ?_
  refine r_iconst dL_weights_324 ?_
  refine r_kX hD1 EV_ok (uX_cost G _ 3 0 hD1.1 hD1.2.1 (by decide)) (mk3 (z := 6) ⟨by decide +kernel, by decide +kernel⟩ oCost_A) dL_weights_325 svX7_cost q479 sh0 (ci := 7) rfl rfl rfl ⟨Nat.le_of_ble_eq_true rfl, Nat.le_of_ble_eq_true rfl⟩ (Nat.le_of_ble_eq_true rfl) ⟨Nat.le_of_ble_eq_true rfl, Nat.le_of_ble_eq_true rfl⟩ (fun s2 hD2 => ?_)
  refine r_bipush dL_weights_328 rfl ?_
  refine r_icmp_neE (tgt := 374) dL_weights_330 (by decide) (rfl) ?_
  refine r_aload_n dL_weights_333 rfl rfl ?_
  refine r_iconst dL_weights_334 ?_
  refine r_iconst dL_weights_335 ?_
  refine r_kX hD2 EV_ok (uX_cut G _ 3 0 hD2.1 hD2.2.1 (by decide)) (mk3 (z := 1) ⟨by decide +kernel, by decide +kernel⟩ oCut_A) dL_weights_336 svX7_cut q511 sh0 (ci := 7) rfl rfl rfl ⟨Nat.le_of_ble_eq_true rfl, Nat.le_of_ble_eq_true rfl⟩ (Nat.le_of_ble_eq_true rfl) ⟨Nat.le_of_ble_eq_true rfl, Nat.le_of_ble_eq_true rfl⟩ (fun s3 hD3 => ?_)
  refine r_iconst dL_weights_339 ?_
  refine r_icmp_neE (tgt := 374) dL_weights_340 (by decide) (rfl) ?_
  refine r_aload_n dL_weights_343 rfl rfl ?_
  refine r_iconst dL_weights_344 ?_
  refine r_iconst dL_weights_345 ?_
  refine r_kX hD3 EV_ok (uX_cut G _ 3 1 hD3.1 hD3.2.1 (by decide)) (mk3 (z := 2) ⟨by decide +kernel, by decide +kernel⟩ oCut_A) dL_weights_346 svX7_cut q511 sh0 (ci := 7) rfl rfl rfl ⟨Nat.le_of_ble_eq_true rfl, Nat.le_of_ble_eq_true rfl⟩ (Nat.le_of_ble_eq_true rfl) ⟨Nat.le_of_ble_eq_true rfl, Nat.le_of_ble_eq_true rfl⟩ (fun s4 hD4 => ?_)
  refine r_iconst dL_weights_349 ?_
  refine r_icmp_neE (tgt := 374) dL_weights_350 (by decide) (rfl) ?_
  refine r_aload_n dL_weights_353 rfl rfl ?_
  refine r_iconst dL_weights_354 ?_
  refine r_iconst dL_weights_355 ?_
  refine r_kX hD4 EV_ok (uX_cost G _ 2 0 hD4.1 hD4.2.1 (by decide)) (mk3 (z := 8) ⟨by decide +kernel, by decide +kernel⟩ oCost_A) dL_weights_356 svX7_cost q479 sh0 (ci := 7) rfl rfl rfl ⟨Nat.le_of_ble_eq_true rfl, Nat.le_of_ble_eq_true rfl⟩ (Nat.le_of_ble_eq_true rfl) ⟨Nat.le_of_ble_eq_true rfl, Nat.le_of_ble_eq_true rfl⟩ (fun s5 hD5 => ?_)
  refine r_bipush dL_weights_359 rfl ?_
  refine r_icmp_neE (tgt := 374) dL_weights_361 (by decide) (rfl) ?_
  refine r_aload_n dL_weights_364 rfl rfl ?_
  refine r_iconst dL_weights_365 ?_
  refine r_iconst dL_weights_366 ?_
  refine r_kX hD5 EV_ok (uX_cut G _ 2 0 hD5.1 hD5.2.1 (by decide)) (mk3 (z := 2) ⟨by decide +kernel, by decide +kernel⟩ oCut_A) dL_weights_367 svX7_cut q511 sh0 (ci := 7) rfl rfl rfl ⟨Nat.le_of_ble_eq_true rfl, Nat.le_of_ble_eq_true rfl⟩ (Nat.le_of_ble_eq_true rfl) ⟨Nat.le_of_ble_eq_true rfl, Nat.le_of_ble_eq_true rfl⟩ (fun s6 hD6 => ?_)
  refine r_iconst dL_weights_370 ?_
  refine r_icmp_eqE (tgt := 376) dL_weights_371 (by decide) (rfl) ?_
  refine r_widen (k2 := 961) (n2 := 7110) (Nat.le_of_ble_eq_true rfl) (Nat.le_of_ble_eq_true rfl) ?_
  exact kk _ hD6
set_option maxHeartbeats 1000000 in
set_option maxRecDepth 100000 in
theorem aw_p6 (G : GT) {P : Option Value → Sg → Prop} (hP : ∀ s, P (some (I 1)) s) (σ0 σ : Sg) (hD : Done σ0 σ aw_9) (kk : ∀ s : Sg, Done σ0 s aw_15 → Rn G mL_weights (rmD 23 1200 8000) (EV G) (Zn G false SH0 P 1200 8000) false SH0 967 7146 398 [(0, Rf G 0), (1, I 9)] [] s) : Rn G mL_weights (rmD 23 1200 8000) (EV G) (Zn G false SH0 P 1200 8000) false SH0 961 7110 376 [(0, Rf G 0)] [] σ := by
  refine r_iconst dL_weights_376 ?_
  refine r_istore_n (lv' := [(0, Rf G 0), (1, I 4)]) dL_weights_377 rfl (Nat.le_of_ble_eq_true rfl) rfl ?_
  refine r_iload_n dL_weights_378 rfl rfl ?_
  refine r_bipush dL_weights_379 rfl ?_
  refine r_icmp_ge (tgt := 404) dL_weights_381 (by decide) (by omega) (fun hb1 => absurd hb1 (by omega)) (fun hb1 => ?_)
  refine r_aload_n dL_weights_384 rfl rfl ?_
  refine r_bipush dL_weights_385 rfl ?_
  refine r_kX hD EV_ok (uX_weigh G _ 99 hD.1 hD.2.1 (by decide)) (mk3 (z := 5) (A := aw_10) ⟨by decide +kernel, by decide +kernel⟩ rfl) dL_weights_387 svX7_weigh q316 sh0 (ci := 7) rfl rfl rfl ⟨Nat.le_of_ble_eq_true rfl, Nat.le_of_ble_eq_true rfl⟩ (Nat.le_of_ble_eq_true rfl) ⟨Nat.le_of_ble_eq_true rfl, Nat.le_of_ble_eq_true rfl⟩ (fun s2 hD2 => ?_)
  refine r_iload_n dL_weights_390 rfl rfl ?_
  refine r_iconst dL_weights_391 ?_
  refine r_iadd dL_weights_392 ?_
  refine r_icmp_eqE (tgt := 398) dL_weights_393 (by decide) (rfl) ?_
  refine r_iinc (lv' := [(0, Rf G 0), (1, I (4 + 1))]) dL_weights_398 (Nat.le_of_ble_eq_true rfl) rfl rfl ?_
  rw [show 4 + 1 = (5 : Int) from rfl]
  refine r_goto (tgt := 378) dL_weights_401 (by decide) ?_
  refine r_iload_n dL_weights_378 rfl rfl ?_
  refine r_bipush dL_weights_379 rfl ?_
  refine r_icmp_ge (tgt := 404) dL_weights_381 (by decide) (by omega) (fun hb3 => absurd hb3 (by omega)) (fun hb3 => ?_)
  refine r_aload_n dL_weights_384 rfl rfl ?_
  refine r_bipush dL_weights_385 rfl ?_
  refine r_kX hD2 EV_ok (uX_weigh G _ 99 hD2.1 hD2.2.1 (by decide)) (mk3 (z := 6) (A := aw_11) ⟨by decide +kernel, by decide +kernel⟩ rfl) dL_weights_387 svX7_weigh q316 sh0 (ci := 7) rfl rfl rfl ⟨Nat.le_of_ble_eq_true rfl, Nat.le_of_ble_eq_true rfl⟩ (Nat.le_of_ble_eq_true rfl) ⟨Nat.le_of_ble_eq_true rfl, Nat.le_of_ble_eq_true rfl⟩ (fun s4 hD4 => ?_)
  refine r_iload_n dL_weights_390 rfl rfl ?_
  refine r_iconst dL_weights_391 ?_
  refine r_iadd dL_weights_392 ?_
  refine r_icmp_eqE (tgt := 398) dL_weights_393 (by decide) (rfl) ?_
  refine r_iinc (lv' := [(0, Rf G 0), (1, I (5 + 1))]) dL_weights_398 (Nat.le_of_ble_eq_true rfl) rfl rfl ?_
  rw [show 5 + 1 = (6 : Int) from rfl]
  refine r_goto (tgt := 378) dL_weights_401 (by decide) ?_
  refine r_iload_n dL_weights_378 rfl rfl ?_
  refine r_bipush dL_weights_379 rfl ?_
  refine r_icmp_ge (tgt := 404) dL_weights_381 (by decide) (by omega) (fun hb5 => absurd hb5 (by omega)) (fun hb5 => ?_)
  refine r_aload_n dL_weights_384 rfl rfl ?_
  refine r_bipush dL_weights_385 rfl ?_
  refine r_kX hD4 EV_ok (uX_weigh G _ 99 hD4.1 hD4.2.1 (by decide)) (mk3 (z := 7) (A := aw_12) ⟨by decide +kernel, by decide +kernel⟩ rfl) dL_weights_387 svX7_weigh q316 sh0 (ci := 7) rfl rfl rfl ⟨Nat.le_of_ble_eq_true rfl, Nat.le_of_ble_eq_true rfl⟩ (Nat.le_of_ble_eq_true rfl) ⟨Nat.le_of_ble_eq_true rfl, Nat.le_of_ble_eq_true rfl⟩ (fun s6 hD6 => ?_)
  refine r_iload_n dL_weights_390 rfl rfl ?_
  refine r_iconst dL_weights_391 ?_
  refine r_iadd dL_weights_392 ?_
  refine r_icmp_eqE (tgt := 398) dL_weights_393 (by decide) (rfl) ?_
  refine r_iinc (lv' := [(0, Rf G 0), (1, I (6 + 1))]) dL_weights_398 (Nat.le_of_ble_eq_true rfl) rfl rfl ?_
  rw [show 6 + 1 = (7 : Int) from rfl]
  refine r_goto (tgt := 378) dL_weights_401 (by decide) ?_
  refine r_iload_n dL_weights_378 rfl rfl ?_
  refine r_bipush dL_weights_379 rfl ?_
  refine r_icmp_ge (tgt := 404) dL_weights_381 (by decide) (by omega) (fun hb7 => absurd hb7 (by omega)) (fun hb7 => ?_)
  refine r_aload_n dL_weights_384 rfl rfl ?_
  refine r_bipush dL_weights_385 rfl ?_
  refine r_kX hD6 EV_ok (uX_weigh G _ 99 hD6.1 hD6.2.1 (by decide)) (mk3 (z := 8) (A := aw_13) ⟨by decide +kernel, by decide +kernel⟩ rfl) dL_weights_387 svX7_weigh q316 sh0 (ci := 7) rfl rfl rfl ⟨Nat.le_of_ble_eq_true rfl, Nat.le_of_ble_eq_true rfl⟩ (Nat.le_of_ble_eq_true rfl) ⟨Nat.le_of_ble_eq_true rfl, Nat.le_of_ble_eq_true rfl⟩ (fun s8 hD8 => ?_)
  refine r_iload_n dL_weights_390 rfl rfl ?_
  refine r_iconst dL_weights_391 ?_
  refine r_iadd dL_weights_392 ?_
  refine r_icmp_eqE (tgt := 398) dL_weights_393 (by decide) (rfl) ?_
  refine r_iinc (lv' := [(0, Rf G 0), (1, I (7 + 1))]) dL_weights_398 (Nat.le_of_ble_eq_true rfl) rfl rfl ?_
  rw [show 7 + 1 = (8 : Int) from rfl]
  refine r_goto (tgt := 378) dL_weights_401 (by decide) ?_
  refine r_iload_n dL_weights_378 rfl rfl ?_
  refine r_bipush dL_weights_379 rfl ?_
  refine r_icmp_ge (tgt := 404) dL_weights_381 (by decide) (by omega) (fun hb9 => absurd hb9 (by omega)) (fun hb9 => ?_)
  refine r_aload_n dL_weights_384 rfl rfl ?_
  refine r_bipush dL_weights_385 rfl ?_
  refine r_kX hD8 EV_ok (uX_weigh G _ 99 hD8.1 hD8.2.1 (by decide)) (mk3 (z := 9) (A := aw_14) ⟨by decide +kernel, by decide +kernel⟩ rfl) dL_weights_387 svX7_weigh q316 sh0 (ci := 7) rfl rfl rfl ⟨Nat.le_of_ble_eq_true rfl, Nat.le_of_ble_eq_true rfl⟩ (Nat.le_of_ble_eq_true rfl) ⟨Nat.le_of_ble_eq_true rfl, Nat.le_of_ble_eq_true rfl⟩ (fun s10 hD10 => ?_)
  refine r_iload_n dL_weights_390 rfl rfl ?_
  refine r_iconst dL_weights_391 ?_
  refine r_iadd dL_weights_392 ?_
  refine r_icmp_eqE (tgt := 398) dL_weights_393 (by decide) (rfl) ?_
  refine r_iinc (lv' := [(0, Rf G 0), (1, I (8 + 1))]) dL_weights_398 (Nat.le_of_ble_eq_true rfl) rfl rfl ?_
  rw [show 8 + 1 = (9 : Int) from rfl]
  refine r_goto (tgt := 378) dL_weights_401 (by decide) ?_
  refine r_iload_n dL_weights_378 rfl rfl ?_
  refine r_bipush dL_weights_379 rfl ?_
  refine r_icmp_ge (tgt := 404) dL_weights_381 (by decide) (by omega) (fun hb11 => absurd hb11 (by omega)) (fun hb11 => ?_)
  refine r_aload_n dL_weights_384 rfl rfl ?_
  refine r_bipush dL_weights_385 rfl ?_
  refine r_kX hD10 EV_ok (uX_weigh G _ 99 hD10.1 hD10.2.1 (by decide)) (mk3 (z := 10) (A := aw_15) ⟨by decide +kernel, by decide +kernel⟩ rfl) dL_weights_387 svX7_weigh q316 sh0 (ci := 7) rfl rfl rfl ⟨Nat.le_of_ble_eq_true rfl, Nat.le_of_ble_eq_true rfl⟩ (Nat.le_of_ble_eq_true rfl) ⟨Nat.le_of_ble_eq_true rfl, Nat.le_of_ble_eq_true rfl⟩ (fun s12 hD12 => ?_)
  refine r_iload_n dL_weights_390 rfl rfl ?_
  refine r_iconst dL_weights_391 ?_
  refine r_iadd dL_weights_392 ?_
  refine r_icmp_eqE (tgt := 398) dL_weights_393 (by decide) (rfl) ?_
  refine r_widen (k2 := 967) (n2 := 7146) (Nat.le_of_ble_eq_true rfl) (Nat.le_of_ble_eq_true rfl) ?_
  exact kk _ hD12
set_option maxHeartbeats 1000000 in
set_option maxRecDepth 100000 in
theorem aw_p7 (G : GT) {P : Option Value → Sg → Prop} (hP : ∀ s, P (some (I 1)) s) (σ0 σ : Sg) (hD : Done σ0 σ aw_15) (kk : ∀ s : Sg, Done σ0 s aw_15 → Rn G mL_weights (rmD 23 1200 8000) (EV G) (Zn G false SH0 P 1200 8000) false SH0 973 7182 471 [(0, Rf G 0), (1, I 10)] [] s) : Rn G mL_weights (rmD 23 1200 8000) (EV G) (Zn G false SH0 P 1200 8000) false SH0 967 7146 398 [(0, Rf G 0), (1, I 9)] [] σ := by
  refine r_iinc (lv' := [(0, Rf G 0), (1, I (9 + 1))]) dL_weights_398 (Nat.le_of_ble_eq_true rfl) rfl rfl ?_
  rw [show 9 + 1 = (10 : Int) from rfl]
  refine r_goto (tgt := 378) dL_weights_401 (by decide) ?_
  refine r_iload_n dL_weights_378 rfl rfl ?_
  refine r_bipush dL_weights_379 rfl ?_
  refine r_icmp_ge (tgt := 404) dL_weights_381 (by decide) (by omega) (fun hb1 => ?_) (fun hb1 => absurd hb1 (by omega))
  refine r_aload_n dL_weights_404 rfl rfl ?_
  refine r_iconst dL_weights_405 ?_
  refine r_iconst dL_weights_406 ?_
  refine r_iconst dL_weights_407 ?_
  refine r_iconst dL_weights_408 ?_
  refine r_iconst dL_weights_409 ?_
  refine r_kC hD EV_ok (tL_call4 G _ 1 0 0 0 hD.1 hD.2.1 (by decide)) (z := (-13)) (by decide +kernel) (oWeigh_x (by decide +kernel)) dL_weights_410 q378 q0 q379 pd_call q377 rfl ⟨Nat.le_of_ble_eq_true rfl, Nat.le_of_ble_eq_true rfl⟩ (Nat.le_of_ble_eq_true rfl) ⟨Nat.le_of_ble_eq_true rfl, Nat.le_of_ble_eq_true rfl⟩ (fun s2 hD2 => ?_)
  refine r_bipush dL_weights_413 rfl ?_
  refine r_icmp_neE (tgt := 511) dL_weights_415 (by decide) (rfl) ?_
  refine r_aload_n dL_weights_418 rfl rfl ?_
  refine r_bipush dL_weights_419 rfl ?_
  refine r_iconst dL_weights_421 ?_
  refine r_kX hD2 EV_ok (uX_cost G _ 10 0 hD2.1 hD2.2.1 (by decide)) (mk3 (z := 58810) ⟨by decide +kernel, by decide +kernel⟩ oCost_A) dL_weights_422 svX7_cost q479 sh0 (ci := 7) rfl rfl rfl ⟨Nat.le_of_ble_eq_true rfl, Nat.le_of_ble_eq_true rfl⟩ (Nat.le_of_ble_eq_true rfl) ⟨Nat.le_of_ble_eq_true rfl, Nat.le_of_ble_eq_true rfl⟩ (fun s3 hD3 => ?_)
  refine r_ldc (z := 58810) dL_weights_425 q567 ?_
  refine r_icmp_neE (tgt := 511) dL_weights_427 (by decide) (rfl) ?_
  refine r_aload_n dL_weights_430 rfl rfl ?_
  refine r_iconst dL_weights_431 ?_
  refine r_iconst dL_weights_432 ?_
  refine r_kX hD3 EV_ok (uX_cost G _ 1 0 hD3.1 hD3.2.1 (by decide)) (mk3 (z := 357604) ⟨by decide +kernel, by decide +kernel⟩ oCost_A) dL_weights_433 svX7_cost q479 sh0 (ci := 7) rfl rfl rfl ⟨Nat.le_of_ble_eq_true rfl, Nat.le_of_ble_eq_true rfl⟩ (Nat.le_of_ble_eq_true rfl) ⟨Nat.le_of_ble_eq_true rfl, Nat.le_of_ble_eq_true rfl⟩ (fun s4 hD4 => ?_)
  refine r_ldc (z := 357604) dL_weights_436 q568 ?_
  refine r_icmp_neE (tgt := 511) dL_weights_438 (by decide) (rfl) ?_
  refine r_aload_n dL_weights_441 rfl rfl ?_
  refine r_iconst dL_weights_442 ?_
  refine r_kX hD4 EV_ok (uX_count G _ 3 hD4.1 hD4.2.1 (by decide)) (mk3 (z := 598) ⟨by decide +kernel, by decide +kernel⟩ oCount_A) dL_weights_443 svX7_count q349 sh0 (ci := 7) rfl rfl rfl ⟨Nat.le_of_ble_eq_true rfl, Nat.le_of_ble_eq_true rfl⟩ (Nat.le_of_ble_eq_true rfl) ⟨Nat.le_of_ble_eq_true rfl, Nat.le_of_ble_eq_true rfl⟩ (fun s5 hD5 => ?_)
  refine r_sipush dL_weights_446 rfl ?_
  refine r_icmp_neE (tgt := 511) dL_weights_449 (by decide) (rfl) ?_
  refine r_aload_n dL_weights_452 rfl rfl ?_
  refine r_ldc (z := 999999) dL_weights_453 q549 ?_
  refine r_kX hD5 EV_ok (uX_fewestParts G _ 999999 hD5.1 hD5.2.1 (by decide)) (mk3 (z := 1) ⟨by decide +kernel, by decide +kernel⟩ oFewest_A) dL_weights_455 svX7_fewestParts q519 sh0 (ci := 7) rfl rfl rfl ⟨Nat.le_of_ble_eq_true rfl, Nat.le_of_ble_eq_true rfl⟩ (Nat.le_of_ble_eq_true rfl) ⟨Nat.le_of_ble_eq_true rfl, Nat.le_of_ble_eq_true rfl⟩ (fun s6 hD6 => ?_)
  refine r_iconst dL_weights_458 ?_
  refine r_icmp_neE (tgt := 511) dL_weights_459 (by decide) (rfl) ?_
  refine r_aload_n dL_weights_462 rfl rfl ?_
  refine r_iconst dL_weights_463 ?_
  refine r_kX hD6 EV_ok (uX_fewestParts G _ 1 hD6.1 hD6.2.1 (by decide)) (mk3 (z := (-1)) ⟨by decide +kernel, by decide +kernel⟩ oFewest_A) dL_weights_464 svX7_fewestParts q519 sh0 (ci := 7) rfl rfl rfl ⟨Nat.le_of_ble_eq_true rfl, Nat.le_of_ble_eq_true rfl⟩ (Nat.le_of_ble_eq_true rfl) ⟨Nat.le_of_ble_eq_true rfl, Nat.le_of_ble_eq_true rfl⟩ (fun s7 hD7 => ?_)
  refine r_iconst dL_weights_467 ?_
  refine r_icmp_neE (tgt := 511) dL_weights_468 (by decide) (rfl) ?_
  refine r_widen (k2 := 973) (n2 := 7182) (Nat.le_of_ble_eq_true rfl) (Nat.le_of_ble_eq_true rfl) ?_
  exact kk _ hD7
set_option maxHeartbeats 1000000 in
set_option maxRecDepth 100000 in
theorem aw_p8 (G : GT) {P : Option Value → Sg → Prop} (hP : ∀ s, P (some (I 1)) s) (σ0 σ : Sg) (hD : Done σ0 σ aw_15) : Rn G mL_weights (rmD 23 1200 8000) (EV G) (Zn G false SH0 P 1200 8000) false SH0 973 7182 471 [(0, Rf G 0), (1, I 10)] [] σ := by
  refine r_aload_n dL_weights_471 rfl rfl ?_
  refine r_bipush dL_weights_472 rfl ?_
  refine r_bipush dL_weights_474 rfl ?_
  refine r_kX hD EV_ok (uX_cut G _ 10 8 hD.1 hD.2.1 (by decide)) (mk3 (z := 9) ⟨by decide +kernel, by decide +kernel⟩ oCut_A) dL_weights_476 svX7_cut q511 sh0 (ci := 7) rfl rfl rfl ⟨Nat.le_of_ble_eq_true rfl, Nat.le_of_ble_eq_true rfl⟩ (Nat.le_of_ble_eq_true rfl) ⟨Nat.le_of_ble_eq_true rfl, Nat.le_of_ble_eq_true rfl⟩ (fun s1 hD1 => ?_)
  refine r_bipush dL_weights_479 rfl ?_
  refine r_icmp_neE (tgt := 511) dL_weights_481 (by decide) (rfl) ?_
  refine r_aload_n dL_weights_484 rfl rfl ?_
  refine r_bipush dL_weights_485 rfl ?_
  refine r_iconst dL_weights_487 ?_
  refine r_kX hD1 EV_ok (uX_cut G _ 7 0 hD1.1 hD1.2.1 (by decide)) (mk3 (z := 4) ⟨by decide +kernel, by decide +kernel⟩ oCut_A) dL_weights_488 svX7_cut q511 sh0 (ci := 7) rfl rfl rfl ⟨Nat.le_of_ble_eq_true rfl, Nat.le_of_ble_eq_true rfl⟩ (Nat.le_of_ble_eq_true rfl) ⟨Nat.le_of_ble_eq_true rfl, Nat.le_of_ble_eq_true rfl⟩ (fun s2 hD2 => ?_)
  refine r_iconst dL_weights_491 ?_
  refine r_icmp_neE (tgt := 511) dL_weights_492 (by decide) (rfl) ?_
  refine r_aload_n dL_weights_495 rfl rfl ?_
  refine r_bipush dL_weights_496 rfl ?_
  refine r_iconst dL_weights_498 ?_
  refine r_kX hD2 EV_ok (uX_cost G _ 7 0 hD2.1 hD2.2.1 (by decide)) (mk3 (z := 58822) ⟨by decide +kernel, by decide +kernel⟩ oCost_A) dL_weights_499 svX7_cost q479 sh0 (ci := 7) rfl rfl rfl ⟨Nat.le_of_ble_eq_true rfl, Nat.le_of_ble_eq_true rfl⟩ (Nat.le_of_ble_eq_true rfl) ⟨Nat.le_of_ble_eq_true rfl, Nat.le_of_ble_eq_true rfl⟩ (fun s3 hD3 => ?_)
  refine r_ldc (z := 58822) dL_weights_502 q569 ?_
  refine r_icmp_neE (tgt := 511) dL_weights_504 (by decide) (rfl) ?_
  refine r_iconst dL_weights_507 ?_
  refine r_goto (tgt := 512) dL_weights_508 (by decide) ?_
  refine r_widen (k2 := 1200) (n2 := 8000) (Nat.le_of_ble_eq_true rfl) (Nat.le_of_ble_eq_true rfl) ?_
  exact r_zret dL_weights_512 rfl (by first | rfl | decide) (hP _)
set_option maxHeartbeats 1000000 in
set_option maxRecDepth 100000 in
theorem tL_weights (G : GT) : CtY G mL_weights 23 1200 8000 true false [] SH0 [] (fun _ _ => 0) (fun rv sv => some (I 1) = rv) := by
  refine cty_of (lv := []) (by decide +kernel) (Nat.le_of_ble_eq_true rfl) rfl ?_
  refine r_new (ci := 7) (N := 8) (sh2 := ms0) tyX7 dL_weights_0 q16 q17 q1 rfl tyX7_ok ixX7 (a := 0) rfl rfl rfl hfs7 (Nat.le_of_ble_eq_true rfl) (Nat.le_of_ble_eq_true rfl) ?_
  refine r_dup dL_weights_3 rfl ?_
  refine r_callA EV_ao (tX7_init_0 G _ (fun q _ => rfl)) dL_weights_4 svX7_init q18 rfl ⟨Nat.le_of_ble_eq_true rfl, Nat.le_of_ble_eq_true rfl⟩ (Nat.le_of_ble_eq_true rfl) ⟨Nat.le_of_ble_eq_true rfl, Nat.le_of_ble_eq_true rfl⟩ ?_
  rintro _ s7 ⟨rfl, h7⟩
  refine r_astore_n (lv' := [(0, Rf G 0)]) dL_weights_7 rfl (Nat.le_of_ble_eq_true rfl) rfl ?_
  refine r_shE (sh2 := SH0) rfl ?_
  refine r_loose ?_
  refine r_widen (k2 := 46) (n2 := 1620) (Nat.le_of_ble_eq_true rfl) (Nat.le_of_ble_eq_true rfl) ?_
  have hc7 := made_c h7
  have hD : Done s7 s7 A00 := Done.rf hc7.1 hc7.2
  obtain ⟨P, hQ⟩ : ∃ P : Option Value → Sg → Prop, P = (fun rv sv => some (I 1) = rv) := ⟨_, rfl⟩
  rw [← hQ]
  have hP : ∀ s, P (some (I 1)) s := by intro s; rw [hQ]
  refine aw_p0 G hP s7 s7 hD (fun v0 k0 => ?_)
  refine aw_p1 G hP s7 v0 k0 (fun v1 k1 => ?_)
  refine aw_p2 G hP s7 v1 k1 (fun v2 k2 => ?_)
  refine aw_p3 G hP s7 v2 k2 (fun v3 k3 => ?_)
  refine aw_p4 G hP s7 v3 k3 (fun v4 k4 => ?_)
  refine aw_p5 G hP s7 v4 k4 (fun v5 k5 => ?_)
  refine aw_p6 G hP s7 v5 k5 (fun v6 k6 => ?_)
  refine aw_p7 G hP s7 v6 k6 (fun v7 k7 => ?_)
  exact aw_p8 G hP s7 v7 k7
