variable {Ω : List Ob}
theorem okw_0 : okW 0 = true := by decide +kernel
theorem okw_47 : okW 47 = true := by decide +kernel
theorem okw_48 : okW 48 = true := by decide +kernel
theorem okw_11569 : okW 11569 = true := by decide +kernel
theorem okw_12337 : okW 12337 = true := by decide +kernel
theorem okw_12588 : okW 12588 = true := by decide +kernel
theorem okw_12603 : okW 12603 = true := by decide +kernel
theorem okw_3222572 : okW 3222572 = true := by decide +kernel
theorem okw_3223343 : okW 3223343 = true := by decide +kernel
theorem okw_3223345 : okW 3223345 = true := by decide +kernel
theorem okw_3485494 : okW 3485494 = true := by decide +kernel
theorem okw_3553080 : okW 3553080 = true := by decide +kernel
theorem okw_825176620 : okW 825176620 = true := by decide +kernel
theorem okw_960051513 : okW 960051513 = true := by decide +kernel
theorem okw_211194817585 : okW 211194817585 = true := by decide +kernel
theorem okw_211194883891 : okW 211194883891 = true := by decide +kernel
theorem okw_211261861936 : okW 211261861936 = true := by decide +kernel
theorem okw_52966345093168 : okW 52966345093168 = true := by decide +kernel
theorem okw_54065890276143 : okW 54065890276143 = true := by decide +kernel
theorem okw_13840863565261873 : okW 13840863565261873 = true := by decide +kernel
theorem okw_13840867910691960 : okW 13840867910691960 = true := by decide +kernel
theorem okw_14966772112370738 : okW 14966772112370738 = true := by decide +kernel
theorem okw_3543261072707039532 : okW 3543261072707039532 = true := by decide +kernel
theorem okw_3543262172252419116 : okW 3543262172252419116 = true := by decide +kernel
theorem okw_3543262185137124396 : okW 3543262185137124396 = true := by decide +kernel
theorem okw_3543262185137124405 : okW 3543262185137124405 = true := by decide +kernel
theorem okw_3544105510522269999 : okW 3544105510522269999 = true := by decide +kernel
theorem okw_4123389851602005809 : okW 4123389851602005809 = true := by decide +kernel
def at_1 : Ab := setB A00 (cwd 211194883891 8 ++ cwd 0 8)
def at_2 : Ab := setB at_1 (cwd 54065890276143 8 ++ cwd 0 8)
def at_3 : Ab := setB at_2 (cwd 3543262185137124396 8 ++ cwd 0 8)
def at_4 : Ab := setB at_3 (cwd 825176620 8 ++ cwd 0 8)
def at_5 : Ab := setB at_4 (cwd 12337 8 ++ cwd 0 8)
def at_6 : Ab := setB at_5 (cwd 211261861936 8 ++ cwd 0 8)
def at_7 : Ab := setB at_6 (cwd 0 8 ++ cwd 0 8)
def at_8 : Ab := setB at_7 (cwd 12588 8 ++ cwd 0 8)
def at_9 : Ab := setB at_8 (cwd 47 8 ++ cwd 0 8)
def at_10 : Ab := setB at_9 (cwd 4123389851602005809 8 ++ cwd 48 8)
def at_11 : Ab := setB at_10 (cwd 3222572 8 ++ cwd 0 8)
def at_12 : Ab := setB at_11 (cwd 3223343 8 ++ cwd 0 8)
def at_13 : Ab := setB at_12 (cwd 13840867910691960 8 ++ cwd 0 8)
def at_14 : Ab := setB at_13 (cwd 3543262172252419116 8 ++ cwd 3485494 8)
def at_15 : Ab := setB at_14 (cwd 11569 8 ++ cwd 0 8)
def at_16 : Ab := setB at_15 (cwd 12603 8 ++ cwd 0 8)
def at_17 : Ab := setB at_16 (cwd 52966345093168 8 ++ cwd 0 8)
def at_18 : Ab := setB at_17 (cwd 3543262185137124405 8 ++ cwd 3553080 8)
def at_19 : Ab := setB at_18 (cwd 3543261072707039532 8 ++ cwd 13840863565261873 8)
def at_20 : Ab := setB at_19 (cwd 3543261072707039532 8 ++ cwd 3543261072707039532 8)
def at_21 : Ab := setB at_20 (at_20.2.2.2.2 ++ cwd 211194817585 8)
def at_22 : Ab := (oClear at_21).2.2
def at_23 : Ab := setB at_22 (cwd 3544105510522269999 8 ++ cwd 3544105510522269999 8)
def at_24 : Ab := setB at_23 (at_23.2.2.2.2 ++ cwd 3223345 8)
def at_25 : Ab := setB at_24 (at_24.2.2.2.2 ++ cwd 47 8)
def at_26 : Ab := (oClear at_25).2.2
def at_27 : Ab := setB at_26 (at_26.2.2.2.2 ++ cwd 14966772112370738 8)
def at_28 : Ab := (oPut at_27 3 3 77).2.2
def at_29 : Ab := (oLoad at_28).2.2
def at_30 : Ab := (oClear at_29).2.2
def at_31 : Ab := (oSize at_30 4 4).2.2
def at_32 : Ab := (oUndo at_31).2.2
def at_33 : Ab := (oUndo at_32).2.2
def at_34 : Ab := setB at_33 (at_33.2.2.2.2 ++ cwd 960051513 8)
def at_35 : Ab := (oLoad at_34).2.2
def at_36 : Ab := setB at_35 (List.replicate 60 55)
def at_37 : Ab := (oClear at_36).2.2
set_option maxHeartbeats 1000000 in
set_option maxRecDepth 100000 in
theorem at_p0 (G : GT) {P : Option Value → Sg → Prop} (hP : ∀ s, P (some (I 1)) s) (σ0 σ : Sg) (hD : Done σ0 σ A00) (kk : ∀ s : Sg, Done σ0 s at_6 → Rn G mL_texts (rmD 23 1400 9000) (EV G) (Zn G false SH0 P 1400 9000) false SH0 166 2340 81 [(0, Rf G 0)] [] s) : Rn G mL_texts (rmD 23 1400 9000) (EV G) (Zn G false SH0 P 1400 9000) false SH0 46 1620 8 [(0, Rf G 0)] [] σ := by
  refine r_aload_n dL_texts_8 rfl rfl ?_
  refine r_ldc2 (z := 211194883891) dL_texts_9 q573 ?_
  refine r_lconst (z := 0) dL_texts_12 rfl ?_
  refine r_iconst dL_texts_13 ?_
  refine r_kY hD EV_ok (tL_isError G _ 211194883891 0 5 hD.1 hD.2.1 okw_211194883891 okw_0 (by decide +kernel)) dL_texts_14 svL_isError q574 rfl ⟨Nat.le_of_ble_eq_true rfl, Nat.le_of_ble_eq_true rfl⟩ (Nat.le_of_ble_eq_true rfl) ⟨Nat.le_of_ble_eq_true rfl, Nat.le_of_ble_eq_true rfl⟩ (fun s1 hD1 => ?_)
  have hE1 : Done σ0 s1 at_1 := hD1
  refine r_if_eq (tgt := 130) dL_texts_17 (by decide) (by omega) (fun hb2 => absurd hb2 (by omega)) (fun hb2 => ?_)
  refine r_aload_n dL_texts_20 rfl rfl ?_
  refine r_ldc2 (z := 54065890276143) dL_texts_21 q590 ?_
  refine r_lconst (z := 0) dL_texts_24 rfl ?_
  refine r_iconst dL_texts_25 ?_
  refine r_kY hE1 EV_ok (tL_isError G _ 54065890276143 0 5 hE1.1 hE1.2.1 okw_54065890276143 okw_0 (by decide +kernel)) dL_texts_26 svL_isError q574 rfl ⟨Nat.le_of_ble_eq_true rfl, Nat.le_of_ble_eq_true rfl⟩ (Nat.le_of_ble_eq_true rfl) ⟨Nat.le_of_ble_eq_true rfl, Nat.le_of_ble_eq_true rfl⟩ (fun s3 hD3 => ?_)
  have hE2 : Done σ0 s3 at_2 := hD3
  refine r_if_eq (tgt := 130) dL_texts_29 (by decide) (by omega) (fun hb4 => absurd hb4 (by omega)) (fun hb4 => ?_)
  refine r_aload_n dL_texts_32 rfl rfl ?_
  refine r_ldc2 (z := 3543262185137124396) dL_texts_33 q591 ?_
  refine r_lconst (z := 0) dL_texts_36 rfl ?_
  refine r_bipush dL_texts_37 rfl ?_
  refine r_kY hE2 EV_ok (tL_isError G _ 3543262185137124396 0 7 hE2.1 hE2.2.1 okw_3543262185137124396 okw_0 (by decide +kernel)) dL_texts_39 svL_isError q574 rfl ⟨Nat.le_of_ble_eq_true rfl, Nat.le_of_ble_eq_true rfl⟩ (Nat.le_of_ble_eq_true rfl) ⟨Nat.le_of_ble_eq_true rfl, Nat.le_of_ble_eq_true rfl⟩ (fun s5 hD5 => ?_)
  have hE3 : Done σ0 s5 at_3 := hD5
  refine r_if_eq (tgt := 130) dL_texts_42 (by decide) (by omega) (fun hb6 => absurd hb6 (by omega)) (fun hb6 => ?_)
  refine r_aload_n dL_texts_45 rfl rfl ?_
  refine r_ldc2 (z := 825176620) dL_texts_46 q592 ?_
  refine r_lconst (z := 0) dL_texts_49 rfl ?_
  refine r_iconst dL_texts_50 ?_
  refine r_kY hE3 EV_ok (tL_isError G _ 825176620 0 3 hE3.1 hE3.2.1 okw_825176620 okw_0 (by decide +kernel)) dL_texts_51 svL_isError q574 rfl ⟨Nat.le_of_ble_eq_true rfl, Nat.le_of_ble_eq_true rfl⟩ (Nat.le_of_ble_eq_true rfl) ⟨Nat.le_of_ble_eq_true rfl, Nat.le_of_ble_eq_true rfl⟩ (fun s7 hD7 => ?_)
  have hE4 : Done σ0 s7 at_4 := hD7
  refine r_if_eq (tgt := 130) dL_texts_54 (by decide) (by omega) (fun hb8 => absurd hb8 (by omega)) (fun hb8 => ?_)
  refine r_aload_n dL_texts_57 rfl rfl ?_
  refine r_ldc2 (z := 12337) dL_texts_58 q593 ?_
  refine r_lconst (z := 0) dL_texts_61 rfl ?_
  refine r_iconst dL_texts_62 ?_
  refine r_kY hE4 EV_ok (tL_isError G _ 12337 0 1 hE4.1 hE4.2.1 okw_12337 okw_0 (by decide +kernel)) dL_texts_63 svL_isError q574 rfl ⟨Nat.le_of_ble_eq_true rfl, Nat.le_of_ble_eq_true rfl⟩ (Nat.le_of_ble_eq_true rfl) ⟨Nat.le_of_ble_eq_true rfl, Nat.le_of_ble_eq_true rfl⟩ (fun s9 hD9 => ?_)
  have hE5 : Done σ0 s9 at_5 := hD9
  refine r_if_eq (tgt := 130) dL_texts_66 (by decide) (by omega) (fun hb10 => absurd hb10 (by omega)) (fun hb10 => ?_)
  refine r_aload_n dL_texts_69 rfl rfl ?_
  refine r_ldc2 (z := 211261861936) dL_texts_70 q594 ?_
  refine r_lconst (z := 0) dL_texts_73 rfl ?_
  refine r_iconst dL_texts_74 ?_
  refine r_kY hE5 EV_ok (tL_isError G _ 211261861936 0 4 hE5.1 hE5.2.1 okw_211261861936 okw_0 (by decide +kernel)) dL_texts_75 svL_isError q574 rfl ⟨Nat.le_of_ble_eq_true rfl, Nat.le_of_ble_eq_true rfl⟩ (Nat.le_of_ble_eq_true rfl) ⟨Nat.le_of_ble_eq_true rfl, Nat.le_of_ble_eq_true rfl⟩ (fun s11 hD11 => ?_)
  have hE6 : Done σ0 s11 at_6 := hD11
  refine r_if_eq (tgt := 130) dL_texts_78 (by decide) (by omega) (fun hb12 => absurd hb12 (by omega)) (fun hb12 => ?_)
  refine r_widen (k2 := 166) (n2 := 2340) (Nat.le_of_ble_eq_true rfl) (Nat.le_of_ble_eq_true rfl) ?_
  exact kk _ hE6
set_option maxHeartbeats 1000000 in
set_option maxRecDepth 100000 in
theorem at_p1 (G : GT) {P : Option Value → Sg → Prop} (hP : ∀ s, P (some (I 1)) s) (σ0 σ : Sg) (hD : Done σ0 σ at_6) (kk : ∀ s : Sg, Done σ0 s at_12 → Rn G mL_texts (rmD 23 1400 9000) (EV G) (Zn G false SH0 P 1400 9000) false SH0 286 3060 156 [(0, Rf G 0)] [] s) : Rn G mL_texts (rmD 23 1400 9000) (EV G) (Zn G false SH0 P 1400 9000) false SH0 166 2340 81 [(0, Rf G 0)] [] σ := by
  refine r_aload_n dL_texts_81 rfl rfl ?_
  refine r_lconst (z := 0) dL_texts_82 rfl ?_
  refine r_lconst (z := 0) dL_texts_83 rfl ?_
  refine r_iconst dL_texts_84 ?_
  refine r_kY hD EV_ok (tL_isError G _ 0 0 0 hD.1 hD.2.1 okw_0 okw_0 (by decide +kernel)) dL_texts_85 svL_isError q574 rfl ⟨Nat.le_of_ble_eq_true rfl, Nat.le_of_ble_eq_true rfl⟩ (Nat.le_of_ble_eq_true rfl) ⟨Nat.le_of_ble_eq_true rfl, Nat.le_of_ble_eq_true rfl⟩ (fun s1 hD1 => ?_)
  have hE7 : Done σ0 s1 at_7 := hD1
  refine r_if_eq (tgt := 130) dL_texts_88 (by decide) (by omega) (fun hb2 => absurd hb2 (by omega)) (fun hb2 => ?_)
  refine r_aload_n dL_texts_91 rfl rfl ?_
  refine r_ldc2 (z := 12588) dL_texts_92 q595 ?_
  refine r_lconst (z := 0) dL_texts_95 rfl ?_
  refine r_iconst dL_texts_96 ?_
  refine r_kY hE7 EV_ok (tL_isError G _ 12588 0 2 hE7.1 hE7.2.1 okw_12588 okw_0 (by decide +kernel)) dL_texts_97 svL_isError q574 rfl ⟨Nat.le_of_ble_eq_true rfl, Nat.le_of_ble_eq_true rfl⟩ (Nat.le_of_ble_eq_true rfl) ⟨Nat.le_of_ble_eq_true rfl, Nat.le_of_ble_eq_true rfl⟩ (fun s3 hD3 => ?_)
  have hE8 : Done σ0 s3 at_8 := hD3
  refine r_if_eq (tgt := 130) dL_texts_100 (by decide) (by omega) (fun hb4 => absurd hb4 (by omega)) (fun hb4 => ?_)
  refine r_aload_n dL_texts_103 rfl rfl ?_
  refine r_ldc2 (z := 47) dL_texts_104 q596 ?_
  refine r_lconst (z := 0) dL_texts_107 rfl ?_
  refine r_iconst dL_texts_108 ?_
  refine r_kY hE8 EV_ok (tL_isError G _ 47 0 0 hE8.1 hE8.2.1 okw_47 okw_0 (by decide +kernel)) dL_texts_109 svL_isError q574 rfl ⟨Nat.le_of_ble_eq_true rfl, Nat.le_of_ble_eq_true rfl⟩ (Nat.le_of_ble_eq_true rfl) ⟨Nat.le_of_ble_eq_true rfl, Nat.le_of_ble_eq_true rfl⟩ (fun s5 hD5 => ?_)
  have hE9 : Done σ0 s5 at_9 := hD5
  refine r_if_eq (tgt := 130) dL_texts_112 (by decide) (by omega) (fun hb6 => absurd hb6 (by omega)) (fun hb6 => ?_)
  refine r_aload_n dL_texts_115 rfl rfl ?_
  refine r_ldc2 (z := 4123389851602005809) dL_texts_116 q597 ?_
  refine r_ldc2 (z := 48) dL_texts_119 q598 ?_
  refine r_bipush dL_texts_122 rfl ?_
  refine r_kY hE9 EV_ok (tL_isError G _ 4123389851602005809 48 9 hE9.1 hE9.2.1 okw_4123389851602005809 okw_48 (by decide +kernel)) dL_texts_124 svL_isError q574 rfl ⟨Nat.le_of_ble_eq_true rfl, Nat.le_of_ble_eq_true rfl⟩ (Nat.le_of_ble_eq_true rfl) ⟨Nat.le_of_ble_eq_true rfl, Nat.le_of_ble_eq_true rfl⟩ (fun s7 hD7 => ?_)
  have hE10 : Done σ0 s7 at_10 := hD7
  refine r_if_ne (tgt := 132) dL_texts_127 (by decide) (by omega) (fun hb8 => ?_) (fun hb8 => absurd hb8 (by omega))
  refine r_aload_n dL_texts_132 rfl rfl ?_
  refine r_ldc2 (z := 3222572) dL_texts_133 q599 ?_
  refine r_lconst (z := 0) dL_texts_136 rfl ?_
  refine r_iconst dL_texts_137 ?_
  refine r_kY hE10 EV_ok (tL_isError G _ 3222572 0 2 hE10.1 hE10.2.1 okw_3222572 okw_0 (by decide +kernel)) dL_texts_138 svL_isError q574 rfl ⟨Nat.le_of_ble_eq_true rfl, Nat.le_of_ble_eq_true rfl⟩ (Nat.le_of_ble_eq_true rfl) ⟨Nat.le_of_ble_eq_true rfl, Nat.le_of_ble_eq_true rfl⟩ (fun s9 hD9 => ?_)
  have hE11 : Done σ0 s9 at_11 := hD9
  refine r_if_eq (tgt := 250) dL_texts_141 (by decide) (by omega) (fun hb10 => absurd hb10 (by omega)) (fun hb10 => ?_)
  refine r_aload_n dL_texts_144 rfl rfl ?_
  refine r_ldc2 (z := 3223343) dL_texts_145 q600 ?_
  refine r_lconst (z := 0) dL_texts_148 rfl ?_
  refine r_iconst dL_texts_149 ?_
  refine r_kY hE11 EV_ok (tL_isError G _ 3223343 0 2 hE11.1 hE11.2.1 okw_3223343 okw_0 (by decide +kernel)) dL_texts_150 svL_isError q574 rfl ⟨Nat.le_of_ble_eq_true rfl, Nat.le_of_ble_eq_true rfl⟩ (Nat.le_of_ble_eq_true rfl) ⟨Nat.le_of_ble_eq_true rfl, Nat.le_of_ble_eq_true rfl⟩ (fun s11 hD11 => ?_)
  have hE12 : Done σ0 s11 at_12 := hD11
  refine r_if_eq (tgt := 250) dL_texts_153 (by decide) (by omega) (fun hb12 => absurd hb12 (by omega)) (fun hb12 => ?_)
  refine r_widen (k2 := 286) (n2 := 3060) (Nat.le_of_ble_eq_true rfl) (Nat.le_of_ble_eq_true rfl) ?_
  exact kk _ hE12
set_option maxHeartbeats 1000000 in
set_option maxRecDepth 100000 in
theorem at_p2 (G : GT) {P : Option Value → Sg → Prop} (hP : ∀ s, P (some (I 1)) s) (σ0 σ : Sg) (hD : Done σ0 σ at_12) (kk : ∀ s : Sg, Done σ0 s at_18 → Rn G mL_texts (rmD 23 1400 9000) (EV G) (Zn G false SH0 P 1400 9000) false SH0 406 3780 235 [(0, Rf G 0)] [] s) : Rn G mL_texts (rmD 23 1400 9000) (EV G) (Zn G false SH0 P 1400 9000) false SH0 286 3060 156 [(0, Rf G 0)] [] σ := by
  refine r_aload_n dL_texts_156 rfl rfl ?_
  refine r_ldc2 (z := 13840867910691960) dL_texts_157 q601 ?_
  refine r_lconst (z := 0) dL_texts_160 rfl ?_
  refine r_bipush dL_texts_161 rfl ?_
  refine r_kY hD EV_ok (tL_isError G _ 13840867910691960 0 6 hD.1 hD.2.1 okw_13840867910691960 okw_0 (by decide +kernel)) dL_texts_163 svL_isError q574 rfl ⟨Nat.le_of_ble_eq_true rfl, Nat.le_of_ble_eq_true rfl⟩ (Nat.le_of_ble_eq_true rfl) ⟨Nat.le_of_ble_eq_true rfl, Nat.le_of_ble_eq_true rfl⟩ (fun s1 hD1 => ?_)
  have hE13 : Done σ0 s1 at_13 := hD1
  refine r_if_eq (tgt := 250) dL_texts_166 (by decide) (by omega) (fun hb2 => absurd hb2 (by omega)) (fun hb2 => ?_)
  refine r_aload_n dL_texts_169 rfl rfl ?_
  refine r_ldc2 (z := 3543262172252419116) dL_texts_170 q602 ?_
  refine r_ldc2 (z := 3485494) dL_texts_173 q603 ?_
  refine r_bipush dL_texts_176 rfl ?_
  refine r_kY hE13 EV_ok (tL_isError G _ 3543262172252419116 3485494 9 hE13.1 hE13.2.1 okw_3543262172252419116 okw_3485494 (by decide +kernel)) dL_texts_178 svL_isError q574 rfl ⟨Nat.le_of_ble_eq_true rfl, Nat.le_of_ble_eq_true rfl⟩ (Nat.le_of_ble_eq_true rfl) ⟨Nat.le_of_ble_eq_true rfl, Nat.le_of_ble_eq_true rfl⟩ (fun s3 hD3 => ?_)
  have hE14 : Done σ0 s3 at_14 := hD3
  refine r_if_eq (tgt := 250) dL_texts_181 (by decide) (by omega) (fun hb4 => absurd hb4 (by omega)) (fun hb4 => ?_)
  refine r_aload_n dL_texts_184 rfl rfl ?_
  refine r_ldc2 (z := 11569) dL_texts_185 q604 ?_
  refine r_lconst (z := 0) dL_texts_188 rfl ?_
  refine r_iconst dL_texts_189 ?_
  refine r_kY hE14 EV_ok (tL_isError G _ 11569 0 0 hE14.1 hE14.2.1 okw_11569 okw_0 (by decide +kernel)) dL_texts_190 svL_isError q574 rfl ⟨Nat.le_of_ble_eq_true rfl, Nat.le_of_ble_eq_true rfl⟩ (Nat.le_of_ble_eq_true rfl) ⟨Nat.le_of_ble_eq_true rfl, Nat.le_of_ble_eq_true rfl⟩ (fun s5 hD5 => ?_)
  have hE15 : Done σ0 s5 at_15 := hD5
  refine r_if_eq (tgt := 250) dL_texts_193 (by decide) (by omega) (fun hb6 => absurd hb6 (by omega)) (fun hb6 => ?_)
  refine r_aload_n dL_texts_196 rfl rfl ?_
  refine r_ldc2 (z := 12603) dL_texts_197 q605 ?_
  refine r_lconst (z := 0) dL_texts_200 rfl ?_
  refine r_iconst dL_texts_201 ?_
  refine r_kY hE15 EV_ok (tL_isError G _ 12603 0 1 hE15.1 hE15.2.1 okw_12603 okw_0 (by decide +kernel)) dL_texts_202 svL_isError q574 rfl ⟨Nat.le_of_ble_eq_true rfl, Nat.le_of_ble_eq_true rfl⟩ (Nat.le_of_ble_eq_true rfl) ⟨Nat.le_of_ble_eq_true rfl, Nat.le_of_ble_eq_true rfl⟩ (fun s7 hD7 => ?_)
  have hE16 : Done σ0 s7 at_16 := hD7
  refine r_if_eq (tgt := 250) dL_texts_205 (by decide) (by omega) (fun hb8 => absurd hb8 (by omega)) (fun hb8 => ?_)
  refine r_aload_n dL_texts_208 rfl rfl ?_
  refine r_ldc2 (z := 52966345093168) dL_texts_209 q606 ?_
  refine r_lconst (z := 0) dL_texts_212 rfl ?_
  refine r_iconst dL_texts_213 ?_
  refine r_kY hE16 EV_ok (tL_isError G _ 52966345093168 0 5 hE16.1 hE16.2.1 okw_52966345093168 okw_0 (by decide +kernel)) dL_texts_214 svL_isError q574 rfl ⟨Nat.le_of_ble_eq_true rfl, Nat.le_of_ble_eq_true rfl⟩ (Nat.le_of_ble_eq_true rfl) ⟨Nat.le_of_ble_eq_true rfl, Nat.le_of_ble_eq_true rfl⟩ (fun s9 hD9 => ?_)
  have hE17 : Done σ0 s9 at_17 := hD9
  refine r_if_eq (tgt := 250) dL_texts_217 (by decide) (by omega) (fun hb10 => absurd hb10 (by omega)) (fun hb10 => ?_)
  refine r_aload_n dL_texts_220 rfl rfl ?_
  refine r_ldc2 (z := 3543262185137124405) dL_texts_221 q607 ?_
  refine r_ldc2 (z := 3553080) dL_texts_224 q608 ?_
  refine r_bipush dL_texts_227 rfl ?_
  refine r_kY hE17 EV_ok (tL_isError G _ 3543262185137124405 3553080 10 hE17.1 hE17.2.1 okw_3543262185137124405 okw_3553080 (by decide +kernel)) dL_texts_229 svL_isError q574 rfl ⟨Nat.le_of_ble_eq_true rfl, Nat.le_of_ble_eq_true rfl⟩ (Nat.le_of_ble_eq_true rfl) ⟨Nat.le_of_ble_eq_true rfl, Nat.le_of_ble_eq_true rfl⟩ (fun s11 hD11 => ?_)
  have hE18 : Done σ0 s11 at_18 := hD11
  refine r_if_eq (tgt := 250) dL_texts_232 (by decide) (by omega) (fun hb12 => absurd hb12 (by omega)) (fun hb12 => ?_)
  refine r_widen (k2 := 406) (n2 := 3780) (Nat.le_of_ble_eq_true rfl) (Nat.le_of_ble_eq_true rfl) ?_
  exact kk _ hE18
set_option maxHeartbeats 1000000 in
set_option maxRecDepth 100000 in
theorem at_p3 (G : GT) {P : Option Value → Sg → Prop} (hP : ∀ s, P (some (I 1)) s) (σ0 σ : Sg) (hD : Done σ0 σ at_18) (kk : ∀ s : Sg, Done σ0 s at_23 → Rn G mL_texts (rmD 23 1400 9000) (EV G) (Zn G false SH0 P 1400 9000) false SH0 474 4188 310 [(0, Rf G 0)] [] s) : Rn G mL_texts (rmD 23 1400 9000) (EV G) (Zn G false SH0 P 1400 9000) false SH0 406 3780 235 [(0, Rf G 0)] [] σ := by
  refine r_aload_n dL_texts_235 rfl rfl ?_
  refine r_ldc2 (z := 3543261072707039532) dL_texts_236 q609 ?_
  refine r_ldc2 (z := 13840863565261873) dL_texts_239 q610 ?_
  refine r_bipush dL_texts_242 rfl ?_
  refine r_kY hD EV_ok (tL_isError G _ 3543261072707039532 13840863565261873 15 hD.1 hD.2.1 okw_3543261072707039532 okw_13840863565261873 (by decide +kernel)) dL_texts_244 svL_isError q574 rfl ⟨Nat.le_of_ble_eq_true rfl, Nat.le_of_ble_eq_true rfl⟩ (Nat.le_of_ble_eq_true rfl) ⟨Nat.le_of_ble_eq_true rfl, Nat.le_of_ble_eq_true rfl⟩ (fun s1 hD1 => ?_)
  have hE19 : Done σ0 s1 at_19 := hD1
  refine r_if_ne (tgt := 252) dL_texts_247 (by decide) (by omega) (fun hb2 => ?_) (fun hb2 => absurd hb2 (by omega))
  refine r_aload_n dL_texts_252 rfl rfl ?_
  refine r_ldc2 (z := 3543261072707039532) dL_texts_253 q609 ?_
  refine r_ldc2 (z := 3543261072707039532) dL_texts_256 q609 ?_
  refine r_bipush dL_texts_259 rfl ?_
  refine r_kY hE19 EV_ok (tL_isError G _ 3543261072707039532 3543261072707039532 16 hE19.1 hE19.2.1 okw_3543261072707039532 okw_3543261072707039532 (by decide +kernel)) dL_texts_261 svL_isError q574 rfl ⟨Nat.le_of_ble_eq_true rfl, Nat.le_of_ble_eq_true rfl⟩ (Nat.le_of_ble_eq_true rfl) ⟨Nat.le_of_ble_eq_true rfl, Nat.le_of_ble_eq_true rfl⟩ (fun s3 hD3 => ?_)
  have hE20 : Done σ0 s3 at_20 := hD3
  refine r_if_eq (tgt := 372) dL_texts_264 (by decide) (by omega) (fun hb4 => absurd hb4 (by omega)) (fun hb4 => ?_)
  refine r_aload_n dL_texts_267 rfl rfl ?_
  refine r_ldc2 (z := 211194817585) dL_texts_268 q611 ?_
  refine r_kY hE20 EV_ok (tL_types G _ 211194817585 hE20.1 hE20.2.1 okw_211194817585 (by decide +kernel)) dL_texts_271 svL_types q581 rfl ⟨Nat.le_of_ble_eq_true rfl, Nat.le_of_ble_eq_true rfl⟩ (Nat.le_of_ble_eq_true rfl) ⟨Nat.le_of_ble_eq_true rfl, Nat.le_of_ble_eq_true rfl⟩ (fun s5 hD5 => ?_)
  have hE21 : Done σ0 s5 at_21 := hD5
  refine r_if_eq (tgt := 372) dL_texts_274 (by decide) (by omega) (fun hb6 => absurd hb6 (by omega)) (fun hb6 => ?_)
  refine r_aload_n dL_texts_277 rfl rfl ?_
  refine r_kO hE21 (uX_firstError G _ hE21.1 hE21.2.1) (mk3 (z := 19) ⟨by decide +kernel, by decide +kernel⟩ oFirst_A) dL_texts_278 svX7_firstError q585 sh0 (ci := 7) rfl rfl rfl ⟨Nat.le_of_ble_eq_true rfl, Nat.le_of_ble_eq_true rfl⟩ (Nat.le_of_ble_eq_true rfl) ⟨Nat.le_of_ble_eq_true rfl, Nat.le_of_ble_eq_true rfl⟩ (fun s7 hD7 => ?_)
  refine r_bipush dL_texts_281 rfl ?_
  refine r_icmp_neE (tgt := 372) dL_texts_283 (by decide) (rfl) ?_
  refine r_aload_n dL_texts_286 rfl rfl ?_
  refine r_kO hD7 (uX_clearBuffer G _ hD7.1 hD7.2.1) (mk3 (z := 21) (A := at_22) ⟨by decide +kernel, by decide +kernel⟩ rfl) dL_texts_287 svX7_clearBuffer q577 sh0 (ci := 7) rfl rfl rfl ⟨Nat.le_of_ble_eq_true rfl, Nat.le_of_ble_eq_true rfl⟩ (Nat.le_of_ble_eq_true rfl) ⟨Nat.le_of_ble_eq_true rfl, Nat.le_of_ble_eq_true rfl⟩ (fun s8 hD8 => ?_)
  refine r_bipush dL_texts_290 rfl ?_
  refine r_icmp_neE (tgt := 372) dL_texts_292 (by decide) (rfl) ?_
  refine r_aload_n dL_texts_295 rfl rfl ?_
  refine r_ldc2 (z := 3544105510522269999) dL_texts_296 q612 ?_
  refine r_ldc2 (z := 3544105510522269999) dL_texts_299 q612 ?_
  refine r_bipush dL_texts_302 rfl ?_
  refine r_kY hD8 EV_ok (tL_isError G _ 3544105510522269999 3544105510522269999 16 hD8.1 hD8.2.1 okw_3544105510522269999 okw_3544105510522269999 (by decide +kernel)) dL_texts_304 svL_isError q574 rfl ⟨Nat.le_of_ble_eq_true rfl, Nat.le_of_ble_eq_true rfl⟩ (Nat.le_of_ble_eq_true rfl) ⟨Nat.le_of_ble_eq_true rfl, Nat.le_of_ble_eq_true rfl⟩ (fun s9 hD9 => ?_)
  have hE22 : Done σ0 s9 at_23 := hD9
  refine r_if_eq (tgt := 372) dL_texts_307 (by decide) (by omega) (fun hb10 => absurd hb10 (by omega)) (fun hb10 => ?_)
  refine r_widen (k2 := 474) (n2 := 4188) (Nat.le_of_ble_eq_true rfl) (Nat.le_of_ble_eq_true rfl) ?_
  exact kk _ hE22
set_option maxHeartbeats 1000000 in
set_option maxRecDepth 100000 in
theorem at_p4 (G : GT) {P : Option Value → Sg → Prop} (hP : ∀ s, P (some (I 1)) s) (σ0 σ : Sg) (hD : Done σ0 σ at_23) (kk : ∀ s : Sg, Done σ0 s at_26 → Rn G mL_texts (rmD 23 1400 9000) (EV G) (Zn G false SH0 P 1400 9000) false SH0 491 4290 374 [(0, Rf G 0)] [] s) : Rn G mL_texts (rmD 23 1400 9000) (EV G) (Zn G false SH0 P 1400 9000) false SH0 474 4188 310 [(0, Rf G 0)] [] σ := by
  refine r_aload_n dL_texts_310 rfl rfl ?_
  refine r_ldc2 (z := 3223345) dL_texts_311 q613 ?_
  refine r_kY hD EV_ok (tL_types G _ 3223345 hD.1 hD.2.1 okw_3223345 (by decide +kernel)) dL_texts_314 svL_types q581 rfl ⟨Nat.le_of_ble_eq_true rfl, Nat.le_of_ble_eq_true rfl⟩ (Nat.le_of_ble_eq_true rfl) ⟨Nat.le_of_ble_eq_true rfl, Nat.le_of_ble_eq_true rfl⟩ (fun s1 hD1 => ?_)
  have hE23 : Done σ0 s1 at_24 := hD1
  refine r_if_eq (tgt := 372) dL_texts_317 (by decide) (by omega) (fun hb2 => absurd hb2 (by omega)) (fun hb2 => ?_)
  refine r_aload_n dL_texts_320 rfl rfl ?_
  refine r_kO hE23 (uX_firstError G _ hE23.1 hE23.2.1) (mk3 (z := 19) ⟨by decide +kernel, by decide +kernel⟩ oFirst_A) dL_texts_321 svX7_firstError q585 sh0 (ci := 7) rfl rfl rfl ⟨Nat.le_of_ble_eq_true rfl, Nat.le_of_ble_eq_true rfl⟩ (Nat.le_of_ble_eq_true rfl) ⟨Nat.le_of_ble_eq_true rfl, Nat.le_of_ble_eq_true rfl⟩ (fun s3 hD3 => ?_)
  refine r_bipush dL_texts_324 rfl ?_
  refine r_icmp_neE (tgt := 372) dL_texts_326 (by decide) (rfl) ?_
  refine r_aload_n dL_texts_329 rfl rfl ?_
  refine r_ldc2 (z := 47) dL_texts_330 q596 ?_
  refine r_kY hD3 EV_ok (tL_types G _ 47 hD3.1 hD3.2.1 okw_47 (by decide +kernel)) dL_texts_333 svL_types q581 rfl ⟨Nat.le_of_ble_eq_true rfl, Nat.le_of_ble_eq_true rfl⟩ (Nat.le_of_ble_eq_true rfl) ⟨Nat.le_of_ble_eq_true rfl, Nat.le_of_ble_eq_true rfl⟩ (fun s4 hD4 => ?_)
  have hE24 : Done σ0 s4 at_25 := hD4
  refine r_if_eq (tgt := 372) dL_texts_336 (by decide) (by omega) (fun hb5 => absurd hb5 (by omega)) (fun hb5 => ?_)
  refine r_aload_n dL_texts_339 rfl rfl ?_
  refine r_kO hE24 (uX_firstError G _ hE24.1 hE24.2.1) (mk3 (z := 19) ⟨by decide +kernel, by decide +kernel⟩ oFirst_A) dL_texts_340 svX7_firstError q585 sh0 (ci := 7) rfl rfl rfl ⟨Nat.le_of_ble_eq_true rfl, Nat.le_of_ble_eq_true rfl⟩ (Nat.le_of_ble_eq_true rfl) ⟨Nat.le_of_ble_eq_true rfl, Nat.le_of_ble_eq_true rfl⟩ (fun s6 hD6 => ?_)
  refine r_bipush dL_texts_343 rfl ?_
  refine r_icmp_neE (tgt := 372) dL_texts_345 (by decide) (rfl) ?_
  refine r_aload_n dL_texts_348 rfl rfl ?_
  refine r_bipush dL_texts_349 rfl ?_
  refine r_iconst dL_texts_351 ?_
  refine r_iconst dL_texts_352 ?_
  refine r_iconst dL_texts_353 ?_
  refine r_iconst dL_texts_354 ?_
  refine r_kC hD6 EV_ok (tL_call7 G _ 0 0 0 0 hD6.1 hD6.2.1) (z := (-12)) (by decide +kernel) (oLoad_x (by decide +kernel)) dL_texts_355 q378 q0 q379 pd_call q377 rfl ⟨Nat.le_of_ble_eq_true rfl, Nat.le_of_ble_eq_true rfl⟩ (Nat.le_of_ble_eq_true rfl) ⟨Nat.le_of_ble_eq_true rfl, Nat.le_of_ble_eq_true rfl⟩ (fun s7 hD7 => ?_)
  refine r_bipush dL_texts_358 rfl ?_
  refine r_icmp_neE (tgt := 372) dL_texts_360 (by decide) (rfl) ?_
  refine r_aload_n dL_texts_363 rfl rfl ?_
  refine r_kO hD7 (uX_clearBuffer G _ hD7.1 hD7.2.1) (mk3 (z := 20) (A := at_26) ⟨by decide +kernel, by decide +kernel⟩ rfl) dL_texts_364 svX7_clearBuffer q577 sh0 (ci := 7) rfl rfl rfl ⟨Nat.le_of_ble_eq_true rfl, Nat.le_of_ble_eq_true rfl⟩ (Nat.le_of_ble_eq_true rfl) ⟨Nat.le_of_ble_eq_true rfl, Nat.le_of_ble_eq_true rfl⟩ (fun s8 hD8 => ?_)
  refine r_bipush dL_texts_367 rfl ?_
  refine r_icmp_eqE (tgt := 374) dL_texts_369 (by decide) (rfl) ?_
  refine r_widen (k2 := 491) (n2 := 4290) (Nat.le_of_ble_eq_true rfl) (Nat.le_of_ble_eq_true rfl) ?_
  exact kk _ hD8
set_option maxHeartbeats 1000000 in
set_option maxRecDepth 100000 in
theorem at_p5 (G : GT) {P : Option Value → Sg → Prop} (hP : ∀ s, P (some (I 1)) s) (σ0 σ : Sg) (hD : Done σ0 σ at_26) (kk : ∀ s : Sg, Done σ0 s at_30 → Rn G mL_texts (rmD 23 1400 9000) (EV G) (Zn G false SH0 P 1400 9000) false SH0 503 4362 431 [(0, Rf G 0)] [] s) : Rn G mL_texts (rmD 23 1400 9000) (EV G) (Zn G false SH0 P 1400 9000) false SH0 491 4290 374 [(0, Rf G 0)] [] σ := by
  refine r_aload_n dL_texts_374 rfl rfl ?_
  refine r_ldc2 (z := 14966772112370738) dL_texts_375 q614 ?_
  refine r_kY hD EV_ok (tL_types G _ 14966772112370738 hD.1 hD.2.1 okw_14966772112370738 (by decide +kernel)) dL_texts_378 svL_types q581 rfl ⟨Nat.le_of_ble_eq_true rfl, Nat.le_of_ble_eq_true rfl⟩ (Nat.le_of_ble_eq_true rfl) ⟨Nat.le_of_ble_eq_true rfl, Nat.le_of_ble_eq_true rfl⟩ (fun s1 hD1 => ?_)
  have hE25 : Done σ0 s1 at_27 := hD1
  refine r_if_eq (tgt := 588) dL_texts_381 (by decide) (by omega) (fun hb2 => absurd hb2 (by omega)) (fun hb2 => ?_)
  refine r_aload_n dL_texts_384 rfl rfl ?_
  refine r_iconst dL_texts_385 ?_
  refine r_iconst dL_texts_386 ?_
  refine r_bipush dL_texts_387 rfl ?_
  refine r_kX hE25 EV_ok (uX_put G _ 3 3 77 hE25.1 hE25.2.1 (by decide)) (mk3 (z := 0) (A := at_28) ⟨by decide +kernel, by decide +kernel⟩ rfl) dL_texts_389 svX7_put q139 sh0 (ci := 7) rfl rfl rfl ⟨Nat.le_of_ble_eq_true rfl, Nat.le_of_ble_eq_true rfl⟩ (Nat.le_of_ble_eq_true rfl) ⟨Nat.le_of_ble_eq_true rfl, Nat.le_of_ble_eq_true rfl⟩ (fun s3 hD3 => ?_)
  refine r_if_ne (tgt := 588) dL_texts_392 (by decide) (by omega) (fun hb4 => absurd hb4 (by omega)) (fun hb4 => ?_)
  refine r_aload_n dL_texts_395 rfl rfl ?_
  refine r_kX hD3 EV_ok (uX_load G _ hD3.1 hD3.2.1) (mk3 (z := 24) (A := at_29) ⟨by decide +kernel, by decide +kernel⟩ rfl) dL_texts_396 svX7_load q405 sh0 (ci := 7) rfl rfl rfl ⟨Nat.le_of_ble_eq_true rfl, Nat.le_of_ble_eq_true rfl⟩ (Nat.le_of_ble_eq_true rfl) ⟨Nat.le_of_ble_eq_true rfl, Nat.le_of_ble_eq_true rfl⟩ (fun s5 hD5 => ?_)
  refine r_bipush dL_texts_399 rfl ?_
  refine r_icmp_neE (tgt := 588) dL_texts_401 (by decide) (rfl) ?_
  refine r_aload_n dL_texts_404 rfl rfl ?_
  refine r_kO hD5 (uX_clearBuffer G _ hD5.1 hD5.2.1) (mk3 (z := 0) (A := at_30) ⟨by decide +kernel, by decide +kernel⟩ rfl) dL_texts_405 svX7_clearBuffer q577 sh0 (ci := 7) rfl rfl rfl ⟨Nat.le_of_ble_eq_true rfl, Nat.le_of_ble_eq_true rfl⟩ (Nat.le_of_ble_eq_true rfl) ⟨Nat.le_of_ble_eq_true rfl, Nat.le_of_ble_eq_true rfl⟩ (fun s6 hD6 => ?_)
  refine r_if_ne (tgt := 588) dL_texts_408 (by decide) (by omega) (fun hb7 => absurd hb7 (by omega)) (fun hb7 => ?_)
  refine r_aload_n dL_texts_411 rfl rfl ?_
  refine r_iconst dL_texts_412 ?_
  refine r_iconst dL_texts_413 ?_
  refine r_kX hD6 EV_ok (uX_cell G _ 0 0 hD6.1 hD6.2.1 (by decide)) (mk3 (z := 5) ⟨by decide +kernel, by decide +kernel⟩ oCell_A) dL_texts_414 svX7_cell q454 sh0 (ci := 7) rfl rfl rfl ⟨Nat.le_of_ble_eq_true rfl, Nat.le_of_ble_eq_true rfl⟩ (Nat.le_of_ble_eq_true rfl) ⟨Nat.le_of_ble_eq_true rfl, Nat.le_of_ble_eq_true rfl⟩ (fun s8 hD8 => ?_)
  refine r_iconst dL_texts_417 ?_
  refine r_icmp_neE (tgt := 588) dL_texts_418 (by decide) (rfl) ?_
  refine r_aload_n dL_texts_421 rfl rfl ?_
  refine r_iconst dL_texts_422 ?_
  refine r_iconst dL_texts_423 ?_
  refine r_kX hD8 EV_ok (uX_cell G _ 1 1 hD8.1 hD8.2.1 (by decide)) (mk3 (z := 2) ⟨by decide +kernel, by decide +kernel⟩ oCell_A) dL_texts_424 svX7_cell q454 sh0 (ci := 7) rfl rfl rfl ⟨Nat.le_of_ble_eq_true rfl, Nat.le_of_ble_eq_true rfl⟩ (Nat.le_of_ble_eq_true rfl) ⟨Nat.le_of_ble_eq_true rfl, Nat.le_of_ble_eq_true rfl⟩ (fun s9 hD9 => ?_)
  refine r_iconst dL_texts_427 ?_
  refine r_icmp_neE (tgt := 588) dL_texts_428 (by decide) (rfl) ?_
  refine r_widen (k2 := 503) (n2 := 4362) (Nat.le_of_ble_eq_true rfl) (Nat.le_of_ble_eq_true rfl) ?_
  exact kk _ hD9
set_option maxHeartbeats 1000000 in
set_option maxRecDepth 100000 in
theorem at_p6 (G : GT) {P : Option Value → Sg → Prop} (hP : ∀ s, P (some (I 1)) s) (σ0 σ : Sg) (hD : Done σ0 σ at_30) (kk : ∀ s : Sg, Done σ0 s at_33 → Rn G mL_texts (rmD 23 1400 9000) (EV G) (Zn G false SH0 P 1400 9000) false SH0 509 4398 487 [(0, Rf G 0)] [] s) : Rn G mL_texts (rmD 23 1400 9000) (EV G) (Zn G false SH0 P 1400 9000) false SH0 503 4362 431 [(0, Rf G 0)] [] σ := by
  refine r_aload_n dL_texts_431 rfl rfl ?_
  refine r_iconst dL_texts_432 ?_
  refine r_kX hD EV_ok (uX_witness G _ 3 hD.1 hD.2.1 (by decide)) (mk3 (z := 1) ⟨by decide +kernel, by decide +kernel⟩ oWitness_A) dL_texts_433 svX7_witness q467 sh0 (ci := 7) rfl rfl rfl ⟨Nat.le_of_ble_eq_true rfl, Nat.le_of_ble_eq_true rfl⟩ (Nat.le_of_ble_eq_true rfl) ⟨Nat.le_of_ble_eq_true rfl, Nat.le_of_ble_eq_true rfl⟩ (fun s1 hD1 => ?_)
  refine r_iconst dL_texts_436 ?_
  refine r_icmp_neE (tgt := 588) dL_texts_437 (by decide) (rfl) ?_
  refine r_aload_n dL_texts_440 rfl rfl ?_
  refine r_iconst dL_texts_441 ?_
  refine r_iconst dL_texts_442 ?_
  refine r_kX hD1 EV_ok (uX_size G _ 4 4 hD1.1 hD1.2.1 (by decide)) (mk3 (z := 24) (A := at_31) ⟨by decide +kernel, by decide +kernel⟩ rfl) dL_texts_443 svX7_size q383 sh0 (ci := 7) rfl rfl rfl ⟨Nat.le_of_ble_eq_true rfl, Nat.le_of_ble_eq_true rfl⟩ (Nat.le_of_ble_eq_true rfl) ⟨Nat.le_of_ble_eq_true rfl, Nat.le_of_ble_eq_true rfl⟩ (fun s2 hD2 => ?_)
  refine r_bipush dL_texts_446 rfl ?_
  refine r_icmp_neE (tgt := 588) dL_texts_448 (by decide) (rfl) ?_
  refine r_aload_n dL_texts_451 rfl rfl ?_
  refine r_iconst dL_texts_452 ?_
  refine r_iconst dL_texts_453 ?_
  refine r_kX hD2 EV_ok (uX_cell G _ 3 3 hD2.1 hD2.2.1 (by decide)) (mk3 (z := 77) ⟨by decide +kernel, by decide +kernel⟩ oCell_A) dL_texts_454 svX7_cell q454 sh0 (ci := 7) rfl rfl rfl ⟨Nat.le_of_ble_eq_true rfl, Nat.le_of_ble_eq_true rfl⟩ (Nat.le_of_ble_eq_true rfl) ⟨Nat.le_of_ble_eq_true rfl, Nat.le_of_ble_eq_true rfl⟩ (fun s3 hD3 => ?_)
  refine r_bipush dL_texts_457 rfl ?_
  refine r_icmp_neE (tgt := 588) dL_texts_459 (by decide) (rfl) ?_
  refine r_aload_n dL_texts_462 rfl rfl ?_
  refine r_iconst dL_texts_463 ?_
  refine r_iconst dL_texts_464 ?_
  refine r_kX hD3 EV_ok (uX_cell G _ 2 0 hD3.1 hD3.2.1 (by decide)) (mk3 (z := 0) ⟨by decide +kernel, by decide +kernel⟩ oCell_A) dL_texts_465 svX7_cell q454 sh0 (ci := 7) rfl rfl rfl ⟨Nat.le_of_ble_eq_true rfl, Nat.le_of_ble_eq_true rfl⟩ (Nat.le_of_ble_eq_true rfl) ⟨Nat.le_of_ble_eq_true rfl, Nat.le_of_ble_eq_true rfl⟩ (fun s4 hD4 => ?_)
  refine r_if_ne (tgt := 588) dL_texts_468 (by decide) (by omega) (fun hb5 => absurd hb5 (by omega)) (fun hb5 => ?_)
  refine r_aload_n dL_texts_471 rfl rfl ?_
  refine r_kX hD4 EV_ok (uX_undo G _ hD4.1 hD4.2.1) (mk3 (z := 2) (A := at_32) ⟨by decide +kernel, by decide +kernel⟩ rfl) dL_texts_472 svX7_undo q341 sh0 (ci := 7) rfl rfl rfl ⟨Nat.le_of_ble_eq_true rfl, Nat.le_of_ble_eq_true rfl⟩ (Nat.le_of_ble_eq_true rfl) ⟨Nat.le_of_ble_eq_true rfl, Nat.le_of_ble_eq_true rfl⟩ (fun s6 hD6 => ?_)
  refine r_iconst dL_texts_475 ?_
  refine r_icmp_neE (tgt := 588) dL_texts_476 (by decide) (rfl) ?_
  refine r_aload_n dL_texts_479 rfl rfl ?_
  refine r_kX hD6 EV_ok (uX_undo G _ hD6.1 hD6.2.1) (mk3 (z := 1) (A := at_33) ⟨by decide +kernel, by decide +kernel⟩ rfl) dL_texts_480 svX7_undo q341 sh0 (ci := 7) rfl rfl rfl ⟨Nat.le_of_ble_eq_true rfl, Nat.le_of_ble_eq_true rfl⟩ (Nat.le_of_ble_eq_true rfl) ⟨Nat.le_of_ble_eq_true rfl, Nat.le_of_ble_eq_true rfl⟩ (fun s7 hD7 => ?_)
  refine r_iconst dL_texts_483 ?_
  refine r_icmp_neE (tgt := 588) dL_texts_484 (by decide) (rfl) ?_
  refine r_widen (k2 := 509) (n2 := 4398) (Nat.le_of_ble_eq_true rfl) (Nat.le_of_ble_eq_true rfl) ?_
  exact kk _ hD7
set_option maxHeartbeats 1000000 in
set_option maxRecDepth 100000 in
theorem at_p7 (G : GT) {P : Option Value → Sg → Prop} (hP : ∀ s, P (some (I 1)) s) (σ0 σ : Sg) (hD : Done σ0 σ at_33) (kk : ∀ s : Sg, Done σ0 s at_35 → Rn G mL_texts (rmD 23 1400 9000) (EV G) (Zn G false SH0 P 1400 9000) false SH0 522 4476 547 [(0, Rf G 0)] [] s) : Rn G mL_texts (rmD 23 1400 9000) (EV G) (Zn G false SH0 P 1400 9000) false SH0 509 4398 487 [(0, Rf G 0)] [] σ := by
  refine r_aload_n dL_texts_487 rfl rfl ?_
  refine r_iconst dL_texts_488 ?_
  refine r_kX hD EV_ok (uX_count G _ 0 hD.1 hD.2.1 (by decide)) (mk3 (z := 4) ⟨by decide +kernel, by decide +kernel⟩ oCount_A) dL_texts_489 svX7_count q349 sh0 (ci := 7) rfl rfl rfl ⟨Nat.le_of_ble_eq_true rfl, Nat.le_of_ble_eq_true rfl⟩ (Nat.le_of_ble_eq_true rfl) ⟨Nat.le_of_ble_eq_true rfl, Nat.le_of_ble_eq_true rfl⟩ (fun s1 hD1 => ?_)
  refine r_iconst dL_texts_492 ?_
  refine r_icmp_neE (tgt := 588) dL_texts_493 (by decide) (rfl) ?_
  refine r_aload_n dL_texts_496 rfl rfl ?_
  refine r_iconst dL_texts_497 ?_
  refine r_iconst dL_texts_498 ?_
  refine r_kX hD1 EV_ok (uX_cell G _ 0 0 hD1.1 hD1.2.1 (by decide)) (mk3 (z := 0) ⟨by decide +kernel, by decide +kernel⟩ oCell_A) dL_texts_499 svX7_cell q454 sh0 (ci := 7) rfl rfl rfl ⟨Nat.le_of_ble_eq_true rfl, Nat.le_of_ble_eq_true rfl⟩ (Nat.le_of_ble_eq_true rfl) ⟨Nat.le_of_ble_eq_true rfl, Nat.le_of_ble_eq_true rfl⟩ (fun s2 hD2 => ?_)
  refine r_if_ne (tgt := 588) dL_texts_502 (by decide) (by omega) (fun hb3 => absurd hb3 (by omega)) (fun hb3 => ?_)
  refine r_aload_n dL_texts_505 rfl rfl ?_
  refine r_iconst dL_texts_506 ?_
  refine r_iconst dL_texts_507 ?_
  refine r_kX hD2 EV_ok (uX_cell G _ 3 3 hD2.1 hD2.2.1 (by decide)) (mk3 (z := 77) ⟨by decide +kernel, by decide +kernel⟩ oCell_A) dL_texts_508 svX7_cell q454 sh0 (ci := 7) rfl rfl rfl ⟨Nat.le_of_ble_eq_true rfl, Nat.le_of_ble_eq_true rfl⟩ (Nat.le_of_ble_eq_true rfl) ⟨Nat.le_of_ble_eq_true rfl, Nat.le_of_ble_eq_true rfl⟩ (fun s4 hD4 => ?_)
  refine r_bipush dL_texts_511 rfl ?_
  refine r_icmp_neE (tgt := 588) dL_texts_513 (by decide) (rfl) ?_
  refine r_aload_n dL_texts_516 rfl rfl ?_
  refine r_ldc2 (z := 960051513) dL_texts_517 q615 ?_
  refine r_kY hD4 EV_ok (tL_types G _ 960051513 hD4.1 hD4.2.1 okw_960051513 (by decide +kernel)) dL_texts_520 svL_types q581 rfl ⟨Nat.le_of_ble_eq_true rfl, Nat.le_of_ble_eq_true rfl⟩ (Nat.le_of_ble_eq_true rfl) ⟨Nat.le_of_ble_eq_true rfl, Nat.le_of_ble_eq_true rfl⟩ (fun s5 hD5 => ?_)
  have hE26 : Done σ0 s5 at_34 := hD5
  refine r_if_eq (tgt := 588) dL_texts_523 (by decide) (by omega) (fun hb6 => absurd hb6 (by omega)) (fun hb6 => ?_)
  refine r_aload_n dL_texts_526 rfl rfl ?_
  refine r_kX hE26 EV_ok (uX_load G _ hE26.1 hE26.2.1) (mk3 (z := 12) (A := at_35) ⟨by decide +kernel, by decide +kernel⟩ rfl) dL_texts_527 svX7_load q405 sh0 (ci := 7) rfl rfl rfl ⟨Nat.le_of_ble_eq_true rfl, Nat.le_of_ble_eq_true rfl⟩ (Nat.le_of_ble_eq_true rfl) ⟨Nat.le_of_ble_eq_true rfl, Nat.le_of_ble_eq_true rfl⟩ (fun s7 hD7 => ?_)
  refine r_bipush dL_texts_530 rfl ?_
  refine r_icmp_neE (tgt := 588) dL_texts_532 (by decide) (rfl) ?_
  refine r_aload_n dL_texts_535 rfl rfl ?_
  refine r_iconst dL_texts_536 ?_
  refine r_iconst dL_texts_537 ?_
  refine r_kX hD7 EV_ok (uX_cell G _ 0 0 hD7.1 hD7.2.1 (by decide)) (mk3 (z := 9999) ⟨by decide +kernel, by decide +kernel⟩ oCell_A) dL_texts_538 svX7_cell q454 sh0 (ci := 7) rfl rfl rfl ⟨Nat.le_of_ble_eq_true rfl, Nat.le_of_ble_eq_true rfl⟩ (Nat.le_of_ble_eq_true rfl) ⟨Nat.le_of_ble_eq_true rfl, Nat.le_of_ble_eq_true rfl⟩ (fun s8 hD8 => ?_)
  refine r_sipush dL_texts_541 rfl ?_
  refine r_icmp_neE (tgt := 588) dL_texts_544 (by decide) (rfl) ?_
  refine r_widen (k2 := 522) (n2 := 4476) (Nat.le_of_ble_eq_true rfl) (Nat.le_of_ble_eq_true rfl) ?_
  exact kk _ hD8
set_option maxHeartbeats 1000000 in
set_option maxRecDepth 100000 in
theorem at_p8 (G : GT) {P : Option Value → Sg → Prop} (hP : ∀ s, P (some (I 1)) s) (σ0 σ : Sg) (hD : Done σ0 σ at_35) (kk : ∀ s : Sg, Done σ0 s at_35 → Rn G mL_texts (rmD 23 1400 9000) (EV G) (Zn G false SH0 P 1400 9000) false SH0 525 4494 592 [(0, Rf G 0), (1, I 0)] [] s) : Rn G mL_texts (rmD 23 1400 9000) (EV G) (Zn G false SH0 P 1400 9000) false SH0 522 4476 547 [(0, Rf G 0)] [] σ := by
  refine r_aload_n dL_texts_547 rfl rfl ?_
  refine r_iconst dL_texts_548 ?_
  refine r_kX hD EV_ok (uX_looks G _ 1 hD.1 hD.2.1 (by decide)) (mk3 (z := 1) ⟨by decide +kernel, by decide +kernel⟩ oLooks_A) dL_texts_549 svX7_looks q463 sh0 (ci := 7) rfl rfl rfl ⟨Nat.le_of_ble_eq_true rfl, Nat.le_of_ble_eq_true rfl⟩ (Nat.le_of_ble_eq_true rfl) ⟨Nat.le_of_ble_eq_true rfl, Nat.le_of_ble_eq_true rfl⟩ (fun s1 hD1 => ?_)
  refine r_iconst dL_texts_552 ?_
  refine r_icmp_neE (tgt := 588) dL_texts_553 (by decide) (rfl) ?_
  refine r_aload_n dL_texts_556 rfl rfl ?_
  refine r_iconst dL_texts_557 ?_
  refine r_kX hD1 EV_ok (uX_looks G _ 2 hD1.1 hD1.2.1 (by decide)) (mk3 (z := 1) ⟨by decide +kernel, by decide +kernel⟩ oLooks_A) dL_texts_558 svX7_looks q463 sh0 (ci := 7) rfl rfl rfl ⟨Nat.le_of_ble_eq_true rfl, Nat.le_of_ble_eq_true rfl⟩ (Nat.le_of_ble_eq_true rfl) ⟨Nat.le_of_ble_eq_true rfl, Nat.le_of_ble_eq_true rfl⟩ (fun s2 hD2 => ?_)
  refine r_iconst dL_texts_561 ?_
  refine r_icmp_neE (tgt := 588) dL_texts_562 (by decide) (rfl) ?_
  refine r_aload_n dL_texts_565 rfl rfl ?_
  refine r_kO hD2 (uX_bound G _ hD2.1 hD2.2.1) (mk3 (z := 2) ⟨by decide +kernel, by decide +kernel⟩ oBound_A) dL_texts_566 svX7_bound q535 sh0 (ci := 7) rfl rfl rfl ⟨Nat.le_of_ble_eq_true rfl, Nat.le_of_ble_eq_true rfl⟩ (Nat.le_of_ble_eq_true rfl) ⟨Nat.le_of_ble_eq_true rfl, Nat.le_of_ble_eq_true rfl⟩ (fun s3 hD3 => ?_)
  refine r_iconst dL_texts_569 ?_
  refine r_icmp_neE (tgt := 588) dL_texts_570 (by decide) (rfl) ?_
  refine r_aload_n dL_texts_573 rfl rfl ?_
  refine r_bipush dL_texts_574 rfl ?_
  refine r_iconst dL_texts_576 ?_
  refine r_iconst dL_texts_577 ?_
  refine r_iconst dL_texts_578 ?_
  refine r_iconst dL_texts_579 ?_
  refine r_kC hD3 EV_ok (tL_call7 G _ 0 0 0 0 hD3.1 hD3.2.1) (z := (-12)) (by decide +kernel) (oLoad_x (by decide +kernel)) dL_texts_580 q378 q0 q379 pd_call q377 rfl ⟨Nat.le_of_ble_eq_true rfl, Nat.le_of_ble_eq_true rfl⟩ (Nat.le_of_ble_eq_true rfl) ⟨Nat.le_of_ble_eq_true rfl, Nat.le_of_ble_eq_true rfl⟩ (fun s4 hD4 => ?_)
  refine r_bipush dL_texts_583 rfl ?_
  refine r_icmp_eqE (tgt := 590) dL_texts_585 (by decide) (rfl) ?_
  refine r_iconst dL_texts_590 ?_
  refine r_istore_n (lv' := [(0, Rf G 0), (1, I 0)]) dL_texts_591 rfl (Nat.le_of_ble_eq_true rfl) rfl ?_
  refine r_widen (k2 := 525) (n2 := 4494) (Nat.le_of_ble_eq_true rfl) (Nat.le_of_ble_eq_true rfl) ?_
  exact kk _ hD4
set_option maxHeartbeats 1000000 in
set_option maxRecDepth 100000 in
theorem at_loop (G : GT) {P : Option Value → Sg → Prop} (σ0 : Sg) (kk : ∀ s : Sg, Done σ0 s (setB at_35 (List.replicate 60 55)) → Rn G mL_texts (rmD 23 1400 9000) (EV G) (Zn G false SH0 P 1400 9000) false SH0 585 4854 637 [(0, Rf G 0), (1, I 60)] [] s) : ∀ (fu k : Nat) (s : Sg), k + fu = 60 → Done σ0 s (setB at_35 (List.replicate k 55)) → Rn G mL_texts (rmD 23 1400 9000) (EV G) (Zn G false SH0 P 1400 9000) false SH0 (525 + k) (4494 + 6 * k) 592 [(0, Rf G 0), (1, I (k : Int))] [] s := by
  intro fu
  induction fu with
  | zero =>
    intro k s hi hD
    refine r_iload_n dL_texts_592 rfl rfl ?_
    refine r_bipush dL_texts_593 rfl ?_
    refine r_icmp_ge (tgt := 637) dL_texts_595 (by decide) (by omega) (fun hb1 => ?_) (fun hb1 => absurd hb1 (by omega))
    obtain rfl : k = 60 := by omega
    exact kk s hD
  | succ fu ih =>
    intro k s hi hD
    refine r_iload_n dL_texts_592 rfl rfl ?_
    refine r_bipush dL_texts_593 rfl ?_
    refine r_icmp_ge (tgt := 637) dL_texts_595 (by decide) (by omega) (fun hb1 => absurd hb1 (by omega)) (fun hb1 => ?_)
    refine r_aload_n dL_texts_598 rfl rfl ?_
    refine r_bipush dL_texts_599 rfl ?_
    refine r_kX hD EV_ok (uX_append G _ 55 hD.1 hD.2.1 (by decide)) (oAppend_7 (by omega)) dL_texts_601 svX7_append q396 sh0 (ci := 7) rfl rfl rfl ⟨Nat.le_of_ble_eq_true rfl, Nat.le_of_ble_eq_true rfl⟩ (Nat.le_of_ble_eq_true rfl) ⟨by simp only [rmD]; omega, by simp only [rmD]; omega⟩ (fun s2 hD2 => ?_)
    refine r_iload_n dL_texts_604 rfl rfl ?_
    refine r_iconst dL_texts_605 ?_
    refine r_iadd dL_texts_606 ?_
    refine r_icmp_neE (tgt := 629) dL_texts_607 (by decide) (rfl) ?_
    refine r_aload_n dL_texts_610 rfl rfl ?_
    refine r_kO hD2 (uX_firstError G _ hD2.1 hD2.2.1) (oFirst_7 (by omega)) dL_texts_611 svX7_firstError q585 sh0 (ci := 7) rfl rfl rfl ⟨Nat.le_of_ble_eq_true rfl, Nat.le_of_ble_eq_true rfl⟩ (Nat.le_of_ble_eq_true rfl) ⟨by simp only [rmD]; omega, by simp only [rmD]; omega⟩ (fun s3 hD3 => ?_)
    refine r_iload_n dL_texts_614 rfl rfl ?_
    refine r_iconst dL_texts_615 ?_
    refine r_icmp_ge (tgt := 625) dL_texts_616 (by decide) (by omega) (fun hb4 => ?_) (fun hb4 => ?_)
    · skip
      refine r_iconst dL_texts_625 ?_
      refine r_icmp_eqE (tgt := 631) dL_texts_626 (by decide) (if_neg (by omega)) ?_
      refine r_iinc (lv' := [(0, Rf G 0), (1, I ((k : Int) + 1))]) dL_texts_631 (Nat.le_of_ble_eq_true rfl) rfl rfl ?_
      refine r_goto (tgt := 592) dL_texts_634 (by decide) ?_
      rw [show (k : Int) + 1 = ((k + 1 : Nat) : Int) from rfl]
      refine r_widen (k2 := 525 + (k + 1)) (n2 := 4494 + 6 * (k + 1)) (by omega) (by omega) ?_
      exact ih (k + 1) s3 (by omega) hD3
    · skip
      refine r_iload_n dL_texts_619 rfl rfl ?_
      refine r_iconst dL_texts_620 ?_
      refine r_iadd dL_texts_621 ?_
      refine r_goto (tgt := 626) dL_texts_622 (by decide) ?_
      refine r_icmp_eqE (tgt := 631) dL_texts_626 (by decide) (if_pos (by omega)) ?_
      refine r_iinc (lv' := [(0, Rf G 0), (1, I ((k : Int) + 1))]) dL_texts_631 (Nat.le_of_ble_eq_true rfl) rfl rfl ?_
      refine r_goto (tgt := 592) dL_texts_634 (by decide) ?_
      rw [show (k : Int) + 1 = ((k + 1 : Nat) : Int) from rfl]
      refine r_widen (k2 := 525 + (k + 1)) (n2 := 4494 + 6 * (k + 1)) (by omega) (by omega) ?_
      exact ih (k + 1) s3 (by omega) hD3
set_option maxRecDepth 100000 in
theorem at_q (G : GT) {P : Option Value → Sg → Prop} (hP : ∀ s, P (some (I 1)) s) (σ0 σ : Sg) (hD : Done σ0 σ at_35) (kk : ∀ s : Sg, Done σ0 s (setB at_35 (List.replicate 60 55)) → Rn G mL_texts (rmD 23 1400 9000) (EV G) (Zn G false SH0 P 1400 9000) false SH0 585 4854 637 [(0, Rf G 0), (1, I 60)] [] s) : Rn G mL_texts (rmD 23 1400 9000) (EV G) (Zn G false SH0 P 1400 9000) false SH0 525 4494 592 [(0, Rf G 0), (1, I 0)] [] σ := by
  rw [show (0 : Int) = ((0 : Nat) : Int) from rfl]
  exact at_loop G σ0 kk 60 0 σ rfl (by show Done σ0 σ (setB at_35 []); rw [setB_nil (by decide +kernel)]; exact hD)
set_option maxHeartbeats 1000000 in
set_option maxRecDepth 100000 in
theorem at_p11 (G : GT) {P : Option Value → Sg → Prop} (hP : ∀ s, P (some (I 1)) s) (σ0 σ : Sg) (hD : Done σ0 σ at_36) : Rn G mL_texts (rmD 23 1400 9000) (EV G) (Zn G false SH0 P 1400 9000) false SH0 585 4854 637 [(0, Rf G 0), (1, I 60)] [] σ := by
  refine r_aload_n dL_texts_637 rfl rfl ?_
  refine r_bipush dL_texts_638 rfl ?_
  refine r_bipush dL_texts_640 rfl ?_
  refine r_iconst dL_texts_642 ?_
  refine r_iconst dL_texts_643 ?_
  refine r_iconst dL_texts_644 ?_
  refine r_kC hD EV_ok (tL_call6 G _ 47 0 0 0 hD.1 hD.2.1 (by decide)) (z := (-13)) (by decide +kernel) (oAppend_x (by decide +kernel)) dL_texts_645 q378 q0 q379 pd_call q377 rfl ⟨Nat.le_of_ble_eq_true rfl, Nat.le_of_ble_eq_true rfl⟩ (Nat.le_of_ble_eq_true rfl) ⟨Nat.le_of_ble_eq_true rfl, Nat.le_of_ble_eq_true rfl⟩ (fun s1 hD1 => ?_)
  refine r_bipush dL_texts_648 rfl ?_
  refine r_icmp_neE (tgt := 681) dL_texts_650 (by decide) (rfl) ?_
  refine r_aload_n dL_texts_653 rfl rfl ?_
  refine r_bipush dL_texts_654 rfl ?_
  refine r_iconst dL_texts_656 ?_
  refine r_iconst dL_texts_657 ?_
  refine r_iconst dL_texts_658 ?_
  refine r_iconst dL_texts_659 ?_
  refine r_kC hD1 EV_ok (tL_call7 G _ 0 0 0 0 hD1.1 hD1.2.1) (z := (-12)) (by decide +kernel) (oLoad_x (by decide +kernel)) dL_texts_660 q378 q0 q379 pd_call q377 rfl ⟨Nat.le_of_ble_eq_true rfl, Nat.le_of_ble_eq_true rfl⟩ (Nat.le_of_ble_eq_true rfl) ⟨Nat.le_of_ble_eq_true rfl, Nat.le_of_ble_eq_true rfl⟩ (fun s2 hD2 => ?_)
  refine r_bipush dL_texts_663 rfl ?_
  refine r_icmp_neE (tgt := 681) dL_texts_665 (by decide) (rfl) ?_
  refine r_aload_n dL_texts_668 rfl rfl ?_
  refine r_kO hD2 (uX_clearBuffer G _ hD2.1 hD2.2.1) (mk3 (z := 60) (A := at_37) ⟨by decide +kernel, by decide +kernel⟩ rfl) dL_texts_669 svX7_clearBuffer q577 sh0 (ci := 7) rfl rfl rfl ⟨Nat.le_of_ble_eq_true rfl, Nat.le_of_ble_eq_true rfl⟩ (Nat.le_of_ble_eq_true rfl) ⟨Nat.le_of_ble_eq_true rfl, Nat.le_of_ble_eq_true rfl⟩ (fun s3 hD3 => ?_)
  refine r_bipush dL_texts_672 rfl ?_
  refine r_icmp_neE (tgt := 681) dL_texts_674 (by decide) (rfl) ?_
  refine r_iconst dL_texts_677 ?_
  refine r_goto (tgt := 682) dL_texts_678 (by decide) ?_
  refine r_widen (k2 := 1400) (n2 := 9000) (Nat.le_of_ble_eq_true rfl) (Nat.le_of_ble_eq_true rfl) ?_
  exact r_zret dL_texts_682 rfl (by first | rfl | decide) (hP _)
set_option maxHeartbeats 1000000 in
set_option maxRecDepth 100000 in
theorem tL_texts (G : GT) : CtY G mL_texts 23 1400 9000 true false [] SH0 [] (fun _ _ => 0) (fun rv sv => some (I 1) = rv) := by
  refine cty_of (lv := []) (by decide +kernel) (Nat.le_of_ble_eq_true rfl) rfl ?_
  refine r_new (ci := 7) (N := 8) (sh2 := ms0) tyX7 dL_texts_0 q16 q17 q1 rfl tyX7_ok ixX7 (a := 0) rfl rfl rfl hfs7 (Nat.le_of_ble_eq_true rfl) (Nat.le_of_ble_eq_true rfl) ?_
  refine r_dup dL_texts_3 rfl ?_
  refine r_callA EV_ao (tX7_init_0 G _ (fun q _ => rfl)) dL_texts_4 svX7_init q18 rfl ⟨Nat.le_of_ble_eq_true rfl, Nat.le_of_ble_eq_true rfl⟩ (Nat.le_of_ble_eq_true rfl) ⟨Nat.le_of_ble_eq_true rfl, Nat.le_of_ble_eq_true rfl⟩ ?_
  rintro _ s7 ⟨rfl, h7⟩
  refine r_astore_n (lv' := [(0, Rf G 0)]) dL_texts_7 rfl (Nat.le_of_ble_eq_true rfl) rfl ?_
  refine r_shE (sh2 := SH0) rfl ?_
  refine r_loose ?_
  refine r_widen (k2 := 46) (n2 := 1620) (Nat.le_of_ble_eq_true rfl) (Nat.le_of_ble_eq_true rfl) ?_
  have hc7 := made_c h7
  have hD : Done s7 s7 A00 := Done.rf hc7.1 hc7.2
  obtain ⟨P, hQ⟩ : ∃ P : Option Value → Sg → Prop, P = (fun rv sv => some (I 1) = rv) := ⟨_, rfl⟩
  rw [← hQ]
  have hP : ∀ s, P (some (I 1)) s := by intro s; rw [hQ]
  refine at_p0 G hP s7 s7 hD (fun v0 k0 => ?_)
  refine at_p1 G hP s7 v0 k0 (fun v1 k1 => ?_)
  refine at_p2 G hP s7 v1 k1 (fun v2 k2 => ?_)
  refine at_p3 G hP s7 v2 k2 (fun v3 k3 => ?_)
  refine at_p4 G hP s7 v3 k3 (fun v4 k4 => ?_)
  refine at_p5 G hP s7 v4 k4 (fun v5 k5 => ?_)
  refine at_p6 G hP s7 v5 k5 (fun v6 k6 => ?_)
  refine at_p7 G hP s7 v6 k6 (fun v7 k7 => ?_)
  refine at_p8 G hP s7 v7 k7 (fun v8 k8 => ?_)
  refine at_q G hP s7 v8 k8 (fun v9 k9 => ?_)
  exact at_p11 G hP s7 v9 k9
