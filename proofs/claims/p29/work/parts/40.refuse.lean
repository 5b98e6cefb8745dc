variable {Ω : List Ob}

theorem pd_call : mL_call.1.cls ≠ "java/lang/invoke/MethodHandle" ∧ mL_call.1.cls ≠ "java/lang/invoke/VarHandle" ∧ (parseMethodDescriptor mL_call.1.desc).map (fun d => d.parameters.length) = some 6 := ⟨by decide +kernel, by decide +kernel, by decide +kernel⟩
theorem cv1 {o : Op3} {A : Ab} {v c1 c2 : Int} (h : o = (1, v, A)) : cvl o c1 c2 = c1 := by subst h; rfl
theorem cv2 {o : Op3} {A : Ab} {v c1 c2 : Int} (h : o = (2, v, A)) : cvl o c1 c2 = c2 := by subst h; rfl
theorem cv0 {o : Op3} {A : Ab} {v c1 c2 : Int} (h : o = (0, v, A)) : cvl o c1 c2 = v := by subst h; rfl
theorem cva {o : Op3} {A : Ab} {v c : Int} (h : o = (c, v, A)) : o.2.2 = A := by subst h; rfl
theorem oLoad_nil {A : Ab} (h : A.2.2.2.2 = []) : oLoad A = (1, 0, A) := by
  unfold oLoad
  rw [h]
  rfl

set_option maxHeartbeats 1000000 in
set_option maxRecDepth 100000 in
theorem tL_refusesOne (G : GT) (σ : Sg) (j : Int) {A : Ab} (hci : CI σ) (ha : absC σ = A) (hj : 0 ≤ j ∧ j ≤ 3) (hB : A.2.2.2.2 = []) : CtY G mL_refusesOne 20 45 270 false false (SH Ω) (SH Ω) [Rf G 0, I j] σ (YP σ (I 1) A) := by
  obtain ⟨P, hP⟩ : ∃ P : Option Value → Sg → Prop, P = (YP σ (I 1) A) := ⟨_, rfl⟩
  rw [← hP]
  refine cty_of (lv := [(0, Rf G 0), (1, I j)]) (by decide +kernel) (Nat.le_of_ble_eq_true rfl) rfl ?_
  have hD : Done σ σ A := Done.rf hci ha
  have hO := hD.ok
  obtain ⟨⟨hR, hC, hW, hT, hTz, hw, hwz⟩, hO2⟩ := hO
  refine r_iload_n dL_refusesOne_0 rfl rfl ?_
  refine r_iconst dL_refusesOne_1 ?_
  refine r_aload_n dL_refusesOne_2 rfl rfl ?_
  refine r_iconst dL_refusesOne_3 ?_
  refine r_kX hD EV_ok (uX_count G _ 0 hD.1 hD.2.1 (by decide)) (oCount_0) dL_refusesOne_4 svX7_count q349 sh0 (ci := 7) rfl rfl rfl ⟨Nat.le_of_ble_eq_true rfl, Nat.le_of_ble_eq_true rfl⟩ (Nat.le_of_ble_eq_true rfl) ⟨Nat.le_of_ble_eq_true rfl, Nat.le_of_ble_eq_true rfl⟩ (fun s1 hD1 => ?_)
  refine r_iconst dL_refusesOne_7 ?_
  refine r_isub dL_refusesOne_8 ?_
  refine r_callS (tL_far G _ j 0 (A.1.1 - 1) (by omega)) dL_refusesOne_9 svL_far q545 rfl ⟨Nat.le_of_ble_eq_true rfl, Nat.le_of_ble_eq_true rfl⟩ (Nat.le_of_ble_eq_true rfl) ⟨Nat.le_of_ble_eq_true rfl, Nat.le_of_ble_eq_true rfl⟩ ?_
  rintro _ _ ⟨⟨f1, rfl, o1, u1, w1⟩, rfl⟩
  refine r_istore_n (lv' := [(0, Rf G 0), (1, I j), (2, I f1)]) dL_refusesOne_12 rfl (Nat.le_of_ble_eq_true rfl) rfl ?_
  refine r_iload_n dL_refusesOne_13 rfl rfl ?_
  refine r_iconst dL_refusesOne_14 ?_
  refine r_aload_n dL_refusesOne_15 rfl rfl ?_
  refine r_iconst dL_refusesOne_16 ?_
  refine r_kX hD1 EV_ok (uX_count G _ 1 hD1.1 hD1.2.1 (by decide)) (oCount_1) dL_refusesOne_17 svX7_count q349 sh0 (ci := 7) rfl rfl rfl ⟨Nat.le_of_ble_eq_true rfl, Nat.le_of_ble_eq_true rfl⟩ (Nat.le_of_ble_eq_true rfl) ⟨Nat.le_of_ble_eq_true rfl, Nat.le_of_ble_eq_true rfl⟩ (fun s2 hD2 => ?_)
  refine r_iconst dL_refusesOne_20 ?_
  refine r_isub dL_refusesOne_21 ?_
  refine r_callS (tL_far G _ j 0 (A.1.2.1 - 1) (by omega)) dL_refusesOne_22 svL_far q545 rfl ⟨Nat.le_of_ble_eq_true rfl, Nat.le_of_ble_eq_true rfl⟩ (Nat.le_of_ble_eq_true rfl) ⟨Nat.le_of_ble_eq_true rfl, Nat.le_of_ble_eq_true rfl⟩ ?_
  rintro _ _ ⟨⟨f2, rfl, o2, u2, w2⟩, rfl⟩
  refine r_istore_n (lv' := [(0, Rf G 0), (1, I j), (2, I f1), (3, I f2)]) dL_refusesOne_25 rfl (Nat.le_of_ble_eq_true rfl) rfl ?_
  refine r_iload_n dL_refusesOne_26 rfl rfl ?_
  refine r_iconst dL_refusesOne_27 ?_
  refine r_bipush dL_refusesOne_28 rfl ?_
  refine r_callS (tL_far G _ j 1 10 (by omega)) dL_refusesOne_30 svL_far q545 rfl ⟨Nat.le_of_ble_eq_true rfl, Nat.le_of_ble_eq_true rfl⟩ (Nat.le_of_ble_eq_true rfl) ⟨Nat.le_of_ble_eq_true rfl, Nat.le_of_ble_eq_true rfl⟩ ?_
  rintro _ _ ⟨⟨f3, rfl, o3, u3, w3⟩, rfl⟩
  refine r_istore (lv' := [(0, Rf G 0), (1, I j), (2, I f1), (3, I f2), (4, I f3)]) dL_refusesOne_33 (Nat.le_of_ble_eq_true rfl) rfl ?_
  refine r_aload_n dL_refusesOne_35 rfl rfl ?_
  refine r_iconst dL_refusesOne_36 ?_
  refine r_iload dL_refusesOne_37 rfl ?_
  refine r_iconst dL_refusesOne_39 ?_
  refine r_iconst dL_refusesOne_40 ?_
  refine r_iconst dL_refusesOne_41 ?_
  have e3 : oSize A f3 1 = (1, 0, A) := by unfold oSize; exact if_neg (by omega)
  refine r_kC hD2 EV_ok (tL_call0 G _ f3 1 0 0 hD2.1 hD2.2.1 (by omega)) (z := (-12)) (cv1 e3) (cva e3) dL_refusesOne_42 q378 q0 q379 pd_call q377 rfl ⟨Nat.le_of_ble_eq_true rfl, Nat.le_of_ble_eq_true rfl⟩ (Nat.le_of_ble_eq_true rfl) ⟨Nat.le_of_ble_eq_true rfl, Nat.le_of_ble_eq_true rfl⟩ (fun s4 hD4 => ?_)
  refine r_bipush dL_refusesOne_45 rfl ?_
  refine r_icmp_neE (tgt := 314) dL_refusesOne_47 (by decide) (rfl) ?_
  refine r_aload_n dL_refusesOne_50 rfl rfl ?_
  refine r_iconst dL_refusesOne_51 ?_
  refine r_bipush dL_refusesOne_52 rfl ?_
  refine r_iload dL_refusesOne_54 rfl ?_
  refine r_iconst dL_refusesOne_56 ?_
  refine r_iconst dL_refusesOne_57 ?_
  have e5 : oSize A 10 f3 = (1, 0, A) := by unfold oSize; exact if_neg (by omega)
  refine r_kC hD4 EV_ok (tL_call0 G _ 10 f3 0 0 hD4.1 hD4.2.1 (by omega)) (z := (-12)) (cv1 e5) (cva e5) dL_refusesOne_58 q378 q0 q379 pd_call q377 rfl ⟨Nat.le_of_ble_eq_true rfl, Nat.le_of_ble_eq_true rfl⟩ (Nat.le_of_ble_eq_true rfl) ⟨Nat.le_of_ble_eq_true rfl, Nat.le_of_ble_eq_true rfl⟩ (fun s6 hD6 => ?_)
  refine r_bipush dL_refusesOne_61 rfl ?_
  refine r_icmp_neE (tgt := 314) dL_refusesOne_63 (by decide) (rfl) ?_
  refine r_aload_n dL_refusesOne_66 rfl rfl ?_
  refine r_iconst dL_refusesOne_67 ?_
  refine r_iload_n dL_refusesOne_68 rfl rfl ?_
  refine r_iconst dL_refusesOne_69 ?_
  refine r_iconst dL_refusesOne_70 ?_
  refine r_iconst dL_refusesOne_71 ?_
  have e7 : oPut A f1 0 (-1) = (1, 0, A) := by unfold oPut; exact if_neg (by omega)
  refine r_kC hD6 EV_ok (tL_call1 G _ f1 0 (-1) 0 hD6.1 hD6.2.1 (by omega)) (z := (-11)) (cv1 e7) (cva e7) dL_refusesOne_72 q378 q0 q379 pd_call q377 rfl ⟨Nat.le_of_ble_eq_true rfl, Nat.le_of_ble_eq_true rfl⟩ (Nat.le_of_ble_eq_true rfl) ⟨Nat.le_of_ble_eq_true rfl, Nat.le_of_ble_eq_true rfl⟩ (fun s8 hD8 => ?_)
  refine r_bipush dL_refusesOne_75 rfl ?_
  refine r_icmp_neE (tgt := 314) dL_refusesOne_77 (by decide) (rfl) ?_
  refine r_aload_n dL_refusesOne_80 rfl rfl ?_
  refine r_iconst dL_refusesOne_81 ?_
  refine r_iconst dL_refusesOne_82 ?_
  refine r_iload_n dL_refusesOne_83 rfl rfl ?_
  refine r_iconst dL_refusesOne_84 ?_
  refine r_iconst dL_refusesOne_85 ?_
  have e9 : oPut A 0 f2 (-1) = (1, 0, A) := by unfold oPut; exact if_neg (by omega)
  refine r_kC hD8 EV_ok (tL_call1 G _ 0 f2 (-1) 0 hD8.1 hD8.2.1 (by omega)) (z := (-11)) (cv1 e9) (cva e9) dL_refusesOne_86 q378 q0 q379 pd_call q377 rfl ⟨Nat.le_of_ble_eq_true rfl, Nat.le_of_ble_eq_true rfl⟩ (Nat.le_of_ble_eq_true rfl) ⟨Nat.le_of_ble_eq_true rfl, Nat.le_of_ble_eq_true rfl⟩ (fun s10 hD10 => ?_)
  refine r_bipush dL_refusesOne_89 rfl ?_
  refine r_icmp_neE (tgt := 314) dL_refusesOne_91 (by decide) (rfl) ?_
  refine r_aload_n dL_refusesOne_94 rfl rfl ?_
  refine r_iconst dL_refusesOne_95 ?_
  refine r_iconst dL_refusesOne_96 ?_
  refine r_iconst dL_refusesOne_97 ?_
  refine r_iload_n dL_refusesOne_98 rfl rfl ?_
  refine r_iconst dL_refusesOne_99 ?_
  refine r_sipush dL_refusesOne_100 rfl ?_
  refine r_callS (tL_far G _ j 0 9999 (by omega)) dL_refusesOne_103 svL_far q545 rfl ⟨Nat.le_of_ble_eq_true rfl, Nat.le_of_ble_eq_true rfl⟩ (Nat.le_of_ble_eq_true rfl) ⟨Nat.le_of_ble_eq_true rfl, Nat.le_of_ble_eq_true rfl⟩ ?_
  rintro _ _ ⟨⟨f4, rfl, o4, u4, w4⟩, rfl⟩
  refine r_iconst dL_refusesOne_106 ?_
  have e11 : oPut A 0 0 f4 = (2, 0, A) := by unfold oPut; rw [if_pos (by omega)]; exact if_neg (by omega)
  refine r_kC hD10 EV_ok (tL_call1 G _ 0 0 f4 0 hD10.1 hD10.2.1 (by omega)) (z := (-12)) (cv2 e11) (cva e11) dL_refusesOne_107 q378 q0 q379 pd_call q377 rfl ⟨Nat.le_of_ble_eq_true rfl, Nat.le_of_ble_eq_true rfl⟩ (Nat.le_of_ble_eq_true rfl) ⟨Nat.le_of_ble_eq_true rfl, Nat.le_of_ble_eq_true rfl⟩ (fun s12 hD12 => ?_)
  refine r_bipush dL_refusesOne_110 rfl ?_
  refine r_icmp_neE (tgt := 314) dL_refusesOne_112 (by decide) (rfl) ?_
  refine r_aload_n dL_refusesOne_115 rfl rfl ?_
  refine r_iconst dL_refusesOne_116 ?_
  refine r_iload_n dL_refusesOne_117 rfl rfl ?_
  refine r_iconst dL_refusesOne_118 ?_
  refine r_bipush dL_refusesOne_119 rfl ?_
  refine r_callS (tL_far G _ j 0 50 (by omega)) dL_refusesOne_121 svL_far q545 rfl ⟨Nat.le_of_ble_eq_true rfl, Nat.le_of_ble_eq_true rfl⟩ (Nat.le_of_ble_eq_true rfl) ⟨Nat.le_of_ble_eq_true rfl, Nat.le_of_ble_eq_true rfl⟩ ?_
  rintro _ _ ⟨⟨f5, rfl, o5, u5, w5⟩, rfl⟩
  refine r_iconst dL_refusesOne_124 ?_
  refine r_iconst dL_refusesOne_125 ?_
  refine r_iconst dL_refusesOne_126 ?_
  have e13 : oPoints A f5 0 0 0 = (1, 0, A) := by unfold oPoints; exact if_neg (by omega)
  refine r_kC hD12 EV_ok (tL_call2 G _ f5 0 0 0 hD12.1 hD12.2.1 (by omega)) (z := (-12)) (cv1 e13) (cva e13) dL_refusesOne_127 q378 q0 q379 pd_call q377 rfl ⟨Nat.le_of_ble_eq_true rfl, Nat.le_of_ble_eq_true rfl⟩ (Nat.le_of_ble_eq_true rfl) ⟨Nat.le_of_ble_eq_true rfl, Nat.le_of_ble_eq_true rfl⟩ (fun s14 hD14 => ?_)
  refine r_bipush dL_refusesOne_130 rfl ?_
  refine r_icmp_neE (tgt := 314) dL_refusesOne_132 (by decide) (rfl) ?_
  refine r_aload_n dL_refusesOne_135 rfl rfl ?_
  refine r_iconst dL_refusesOne_136 ?_
  refine r_bipush dL_refusesOne_137 rfl ?_
  refine r_iload_n dL_refusesOne_139 rfl rfl ?_
  refine r_iconst dL_refusesOne_140 ?_
  refine r_bipush dL_refusesOne_141 rfl ?_
  refine r_callS (tL_far G _ j 0 9 (by omega)) dL_refusesOne_143 svL_far q545 rfl ⟨Nat.le_of_ble_eq_true rfl, Nat.le_of_ble_eq_true rfl⟩ (Nat.le_of_ble_eq_true rfl) ⟨Nat.le_of_ble_eq_true rfl, Nat.le_of_ble_eq_true rfl⟩ ?_
  rintro _ _ ⟨⟨f6, rfl, o6, u6, w6⟩, rfl⟩
  refine r_iconst dL_refusesOne_146 ?_
  refine r_iconst dL_refusesOne_147 ?_
  have e15 : oPoints A 50 f6 0 0 = (1, 0, A) := by unfold oPoints; exact if_neg (by omega)
  refine r_kC hD14 EV_ok (tL_call2 G _ 50 f6 0 0 hD14.1 hD14.2.1 (by omega)) (z := (-12)) (cv1 e15) (cva e15) dL_refusesOne_148 q378 q0 q379 pd_call q377 rfl ⟨Nat.le_of_ble_eq_true rfl, Nat.le_of_ble_eq_true rfl⟩ (Nat.le_of_ble_eq_true rfl) ⟨Nat.le_of_ble_eq_true rfl, Nat.le_of_ble_eq_true rfl⟩ (fun s16 hD16 => ?_)
  refine r_bipush dL_refusesOne_151 rfl ?_
  refine r_icmp_neE (tgt := 314) dL_refusesOne_153 (by decide) (rfl) ?_
  refine r_aload_n dL_refusesOne_156 rfl rfl ?_
  refine r_iconst dL_refusesOne_157 ?_
  refine r_iconst dL_refusesOne_158 ?_
  refine r_bipush dL_refusesOne_159 rfl ?_
  refine r_iload_n dL_refusesOne_161 rfl rfl ?_
  refine r_iconst dL_refusesOne_162 ?_
  refine r_bipush dL_refusesOne_163 rfl ?_
  refine r_callS (tL_far G _ j 0 50 (by omega)) dL_refusesOne_165 svL_far q545 rfl ⟨Nat.le_of_ble_eq_true rfl, Nat.le_of_ble_eq_true rfl⟩ (Nat.le_of_ble_eq_true rfl) ⟨Nat.le_of_ble_eq_true rfl, Nat.le_of_ble_eq_true rfl⟩ ?_
  rintro _ _ ⟨⟨f7, rfl, o7, u7, w7⟩, rfl⟩
  refine r_iconst dL_refusesOne_168 ?_
  have e17 : oPoints A 0 9 f7 0 = (1, 0, A) := by unfold oPoints; exact if_neg (by omega)
  refine r_kC hD16 EV_ok (tL_call2 G _ 0 9 f7 0 hD16.1 hD16.2.1 (by omega)) (z := (-12)) (cv1 e17) (cva e17) dL_refusesOne_169 q378 q0 q379 pd_call q377 rfl ⟨Nat.le_of_ble_eq_true rfl, Nat.le_of_ble_eq_true rfl⟩ (Nat.le_of_ble_eq_true rfl) ⟨Nat.le_of_ble_eq_true rfl, Nat.le_of_ble_eq_true rfl⟩ (fun s18 hD18 => ?_)
  refine r_bipush dL_refusesOne_172 rfl ?_
  refine r_icmp_neE (tgt := 314) dL_refusesOne_174 (by decide) (rfl) ?_
  refine r_aload_n dL_refusesOne_177 rfl rfl ?_
  refine r_iconst dL_refusesOne_178 ?_
  refine r_iconst dL_refusesOne_179 ?_
  refine r_iconst dL_refusesOne_180 ?_
  refine r_bipush dL_refusesOne_181 rfl ?_
  refine r_iload_n dL_refusesOne_183 rfl rfl ?_
  refine r_iconst dL_refusesOne_184 ?_
  refine r_bipush dL_refusesOne_185 rfl ?_
  refine r_callS (tL_far G _ j 0 9 (by omega)) dL_refusesOne_187 svL_far q545 rfl ⟨Nat.le_of_ble_eq_true rfl, Nat.le_of_ble_eq_true rfl⟩ (Nat.le_of_ble_eq_true rfl) ⟨Nat.le_of_ble_eq_true rfl, Nat.le_of_ble_eq_true rfl⟩ ?_
  rintro _ _ ⟨⟨f8, rfl, o8, u8, w8⟩, rfl⟩
  have e19 : oPoints A 0 0 50 f8 = (1, 0, A) := by unfold oPoints; exact if_neg (by omega)
  refine r_kC hD18 EV_ok (tL_call2 G _ 0 0 50 f8 hD18.1 hD18.2.1 (by omega)) (z := (-12)) (cv1 e19) (cva e19) dL_refusesOne_190 q378 q0 q379 pd_call q377 rfl ⟨Nat.le_of_ble_eq_true rfl, Nat.le_of_ble_eq_true rfl⟩ (Nat.le_of_ble_eq_true rfl) ⟨Nat.le_of_ble_eq_true rfl, Nat.le_of_ble_eq_true rfl⟩ (fun s20 hD20 => ?_)
  refine r_bipush dL_refusesOne_193 rfl ?_
  refine r_icmp_neE (tgt := 314) dL_refusesOne_195 (by decide) (rfl) ?_
  refine r_aload_n dL_refusesOne_198 rfl rfl ?_
  refine r_iconst dL_refusesOne_199 ?_
  refine r_iload_n dL_refusesOne_200 rfl rfl ?_
  refine r_iconst dL_refusesOne_201 ?_
  refine r_iconst dL_refusesOne_202 ?_
  refine r_callS (tL_far G _ j 0 2 (by omega)) dL_refusesOne_203 svL_far q545 rfl ⟨Nat.le_of_ble_eq_true rfl, Nat.le_of_ble_eq_true rfl⟩ (Nat.le_of_ble_eq_true rfl) ⟨Nat.le_of_ble_eq_true rfl, Nat.le_of_ble_eq_true rfl⟩ ?_
  rintro _ _ ⟨⟨f9, rfl, o9, u9, w9⟩, rfl⟩
  refine r_iconst dL_refusesOne_206 ?_
  refine r_iconst dL_refusesOne_207 ?_
  refine r_iconst dL_refusesOne_208 ?_
  have e21 : oFind A f9 = (1, 0, A) := by unfold oFind; exact if_neg (by omega)
  refine r_kC hD20 EV_ok (tL_call3 G _ f9 0 0 0 hD20.1 hD20.2.1 (by omega)) (z := (-12)) (cv1 e21) (cva e21) dL_refusesOne_209 q378 q0 q379 pd_call q377 rfl ⟨Nat.le_of_ble_eq_true rfl, Nat.le_of_ble_eq_true rfl⟩ (Nat.le_of_ble_eq_true rfl) ⟨Nat.le_of_ble_eq_true rfl, Nat.le_of_ble_eq_true rfl⟩ (fun s22 hD22 => ?_)
  refine r_bipush dL_refusesOne_212 rfl ?_
  refine r_icmp_neE (tgt := 314) dL_refusesOne_214 (by decide) (rfl) ?_
  refine r_aload_n dL_refusesOne_217 rfl rfl ?_
  refine r_iconst dL_refusesOne_218 ?_
  refine r_iload_n dL_refusesOne_219 rfl rfl ?_
  refine r_iconst dL_refusesOne_220 ?_
  refine r_bipush dL_refusesOne_221 rfl ?_
  refine r_callS (tL_far G _ j 1 99 (by omega)) dL_refusesOne_223 svL_far q545 rfl ⟨Nat.le_of_ble_eq_true rfl, Nat.le_of_ble_eq_true rfl⟩ (Nat.le_of_ble_eq_true rfl) ⟨Nat.le_of_ble_eq_true rfl, Nat.le_of_ble_eq_true rfl⟩ ?_
  rintro _ _ ⟨⟨f10, rfl, o10, u10, w10⟩, rfl⟩
  refine r_iconst dL_refusesOne_226 ?_
  refine r_iconst dL_refusesOne_227 ?_
  refine r_iconst dL_refusesOne_228 ?_
  have e23 : oWeigh A f10 = (1, 0, A) := by unfold oWeigh; exact if_neg (by omega)
  refine r_kC hD22 EV_ok (tL_call4 G _ f10 0 0 0 hD22.1 hD22.2.1 (by omega)) (z := (-12)) (cv1 e23) (cva e23) dL_refusesOne_229 q378 q0 q379 pd_call q377 rfl ⟨Nat.le_of_ble_eq_true rfl, Nat.le_of_ble_eq_true rfl⟩ (Nat.le_of_ble_eq_true rfl) ⟨Nat.le_of_ble_eq_true rfl, Nat.le_of_ble_eq_true rfl⟩ (fun s24 hD24 => ?_)
  refine r_bipush dL_refusesOne_232 rfl ?_
  refine r_icmp_neE (tgt := 314) dL_refusesOne_234 (by decide) (rfl) ?_
  refine r_aload_n dL_refusesOne_237 rfl rfl ?_
  refine r_bipush dL_refusesOne_238 rfl ?_
  refine r_iload_n dL_refusesOne_240 rfl rfl ?_
  refine r_bipush dL_refusesOne_241 rfl ?_
  refine r_bipush dL_refusesOne_243 rfl ?_
  refine r_callS (tL_far G _ j 33 126 (by omega)) dL_refusesOne_245 svL_far q545 rfl ⟨Nat.le_of_ble_eq_true rfl, Nat.le_of_ble_eq_true rfl⟩ (Nat.le_of_ble_eq_true rfl) ⟨Nat.le_of_ble_eq_true rfl, Nat.le_of_ble_eq_true rfl⟩ ?_
  rintro _ _ ⟨⟨f11, rfl, o11, u11, w11⟩, rfl⟩
  refine r_iconst dL_refusesOne_248 ?_
  refine r_iconst dL_refusesOne_249 ?_
  refine r_iconst dL_refusesOne_250 ?_
  have e25 : oAppend A f11 = (1, 0, A) := by unfold oAppend; exact if_neg (by omega)
  refine r_kC hD24 EV_ok (tL_call6 G _ f11 0 0 0 hD24.1 hD24.2.1 (by omega)) (z := (-12)) (cv1 e25) (cva e25) dL_refusesOne_251 q378 q0 q379 pd_call q377 rfl ⟨Nat.le_of_ble_eq_true rfl, Nat.le_of_ble_eq_true rfl⟩ (Nat.le_of_ble_eq_true rfl) ⟨Nat.le_of_ble_eq_true rfl, Nat.le_of_ble_eq_true rfl⟩ (fun s26 hD26 => ?_)
  refine r_bipush dL_refusesOne_254 rfl ?_
  refine r_icmp_neE (tgt := 314) dL_refusesOne_256 (by decide) (rfl) ?_
  refine r_aload_n dL_refusesOne_259 rfl rfl ?_
  refine r_bipush dL_refusesOne_260 rfl ?_
  refine r_iconst dL_refusesOne_262 ?_
  refine r_iconst dL_refusesOne_263 ?_
  refine r_iconst dL_refusesOne_264 ?_
  refine r_iconst dL_refusesOne_265 ?_
  have e27 : oLoad A = (1, 0, A) := oLoad_nil hB
  refine r_kC hD26 EV_ok (tL_call7 G _ 0 0 0 0 hD26.1 hD26.2.1) (z := (-12)) (cv1 e27) (cva e27) dL_refusesOne_266 q378 q0 q379 pd_call q377 rfl ⟨Nat.le_of_ble_eq_true rfl, Nat.le_of_ble_eq_true rfl⟩ (Nat.le_of_ble_eq_true rfl) ⟨Nat.le_of_ble_eq_true rfl, Nat.le_of_ble_eq_true rfl⟩ (fun s28 hD28 => ?_)
  refine r_bipush dL_refusesOne_269 rfl ?_
  refine r_icmp_neE (tgt := 314) dL_refusesOne_271 (by decide) (rfl) ?_
  refine r_aload_n dL_refusesOne_274 rfl rfl ?_
  refine r_bipush dL_refusesOne_275 rfl ?_
  refine r_iload_n dL_refusesOne_277 rfl rfl ?_
  refine r_iconst dL_refusesOne_278 ?_
  refine r_iconst dL_refusesOne_279 ?_
  refine r_callS (tL_far G _ j 0 1 (by omega)) dL_refusesOne_280 svL_far q545 rfl ⟨Nat.le_of_ble_eq_true rfl, Nat.le_of_ble_eq_true rfl⟩ (Nat.le_of_ble_eq_true rfl) ⟨Nat.le_of_ble_eq_true rfl, Nat.le_of_ble_eq_true rfl⟩ ?_
  rintro _ _ ⟨⟨f12, rfl, o12, u12, w12⟩, rfl⟩
  refine r_iconst dL_refusesOne_283 ?_
  refine r_iconst dL_refusesOne_284 ?_
  refine r_iconst dL_refusesOne_285 ?_
  have e29 : oKeep A f12 = (1, 0, A) := by unfold oKeep; rw [if_neg (by omega)]; exact if_neg (by omega)
  refine r_kC hD28 EV_ok (tL_call8 G _ f12 0 0 0 hD28.1 hD28.2.1 (by omega)) (z := (-12)) (cv1 e29) (cva e29) dL_refusesOne_286 q378 q0 q379 pd_call q377 rfl ⟨Nat.le_of_ble_eq_true rfl, Nat.le_of_ble_eq_true rfl⟩ (Nat.le_of_ble_eq_true rfl) ⟨Nat.le_of_ble_eq_true rfl, Nat.le_of_ble_eq_true rfl⟩ (fun s30 hD30 => ?_)
  refine r_bipush dL_refusesOne_289 rfl ?_
  refine r_icmp_neE (tgt := 314) dL_refusesOne_291 (by decide) (rfl) ?_
  refine r_aload_n dL_refusesOne_294 rfl rfl ?_
  refine r_bipush dL_refusesOne_295 rfl ?_
  refine r_iload_n dL_refusesOne_297 rfl rfl ?_
  refine r_iconst dL_refusesOne_298 ?_
  refine r_iconst dL_refusesOne_299 ?_
  refine r_callS (tL_far G _ j 0 1 (by omega)) dL_refusesOne_300 svL_far q545 rfl ⟨Nat.le_of_ble_eq_true rfl, Nat.le_of_ble_eq_true rfl⟩ (Nat.le_of_ble_eq_true rfl) ⟨Nat.le_of_ble_eq_true rfl, Nat.le_of_ble_eq_true rfl⟩ ?_
  rintro _ _ ⟨⟨f13, rfl, o13, u13, w13⟩, rfl⟩
  refine r_iconst dL_refusesOne_303 ?_
  refine r_iconst dL_refusesOne_304 ?_
  refine r_iconst dL_refusesOne_305 ?_
  have e31 : oBack A f13 = (1, 0, A) := by unfold oBack; rw [if_neg (by omega)]; exact if_neg (by omega)
  refine r_kC hD30 EV_ok (tL_call9 G _ f13 0 0 0 hD30.1 hD30.2.1 (by omega)) (z := (-12)) (cv1 e31) (cva e31) dL_refusesOne_306 q378 q0 q379 pd_call q377 rfl ⟨Nat.le_of_ble_eq_true rfl, Nat.le_of_ble_eq_true rfl⟩ (Nat.le_of_ble_eq_true rfl) ⟨Nat.le_of_ble_eq_true rfl, Nat.le_of_ble_eq_true rfl⟩ (fun s32 hD32 => ?_)
  refine r_bipush dL_refusesOne_309 rfl ?_
  refine r_icmp_eqE (tgt := 316) dL_refusesOne_311 (by decide) (rfl) ?_
  refine r_aload_n dL_refusesOne_316 rfl rfl ?_
  refine r_bipush dL_refusesOne_317 rfl ?_
  refine r_iload_n dL_refusesOne_319 rfl rfl ?_
  refine r_iconst dL_refusesOne_320 ?_
  refine r_iconst dL_refusesOne_321 ?_
  refine r_iconst dL_refusesOne_322 ?_
  have e33 : oCell A f1 0 = (1, 0, A) := by unfold oCell; exact if_neg (by omega)
  refine r_kC hD32 EV_ok (tL_call11 G _ f1 0 0 0 hD32.1 hD32.2.1 (by omega)) (z := (-11)) (cv1 e33) (cva e33) dL_refusesOne_323 q378 q0 q379 pd_call q377 rfl ⟨Nat.le_of_ble_eq_true rfl, Nat.le_of_ble_eq_true rfl⟩ (Nat.le_of_ble_eq_true rfl) ⟨Nat.le_of_ble_eq_true rfl, Nat.le_of_ble_eq_true rfl⟩ (fun s34 hD34 => ?_)
  refine r_bipush dL_refusesOne_326 rfl ?_
  refine r_icmp_neE (tgt := 602) dL_refusesOne_328 (by decide) (rfl) ?_
  refine r_aload_n dL_refusesOne_331 rfl rfl ?_
  refine r_bipush dL_refusesOne_332 rfl ?_
  refine r_iconst dL_refusesOne_334 ?_
  refine r_iload_n dL_refusesOne_335 rfl rfl ?_
  refine r_iconst dL_refusesOne_336 ?_
  refine r_iconst dL_refusesOne_337 ?_
  have e35 : oCell A 0 f2 = (1, 0, A) := by unfold oCell; exact if_neg (by omega)
  refine r_kC hD34 EV_ok (tL_call11 G _ 0 f2 0 0 hD34.1 hD34.2.1 (by omega)) (z := (-11)) (cv1 e35) (cva e35) dL_refusesOne_338 q378 q0 q379 pd_call q377 rfl ⟨Nat.le_of_ble_eq_true rfl, Nat.le_of_ble_eq_true rfl⟩ (Nat.le_of_ble_eq_true rfl) ⟨Nat.le_of_ble_eq_true rfl, Nat.le_of_ble_eq_true rfl⟩ (fun s36 hD36 => ?_)
  refine r_bipush dL_refusesOne_341 rfl ?_
  refine r_icmp_neE (tgt := 602) dL_refusesOne_343 (by decide) (rfl) ?_
  refine r_aload_n dL_refusesOne_346 rfl rfl ?_
  refine r_bipush dL_refusesOne_347 rfl ?_
  refine r_iload_n dL_refusesOne_349 rfl rfl ?_
  refine r_bipush dL_refusesOne_350 rfl ?_
  refine r_iconst dL_refusesOne_352 ?_
  refine r_iconst dL_refusesOne_353 ?_
  have e37 : oPlace A f1 9 = (1, 0, A) := by unfold oPlace; exact if_neg (by omega)
  refine r_kC hD36 EV_ok (tL_call12 G _ f1 9 0 0 hD36.1 hD36.2.1 (by omega)) (z := (-11)) (cv1 e37) (cva e37) dL_refusesOne_354 q378 q0 q379 pd_call q377 rfl ⟨Nat.le_of_ble_eq_true rfl, Nat.le_of_ble_eq_true rfl⟩ (Nat.le_of_ble_eq_true rfl) ⟨Nat.le_of_ble_eq_true rfl, Nat.le_of_ble_eq_true rfl⟩ (fun s38 hD38 => ?_)
  refine r_bipush dL_refusesOne_357 rfl ?_
  refine r_icmp_neE (tgt := 602) dL_refusesOne_359 (by decide) (rfl) ?_
  refine r_aload_n dL_refusesOne_362 rfl rfl ?_
  refine r_bipush dL_refusesOne_363 rfl ?_
  refine r_iconst dL_refusesOne_365 ?_
  refine r_iload_n dL_refusesOne_366 rfl rfl ?_
  refine r_iconst dL_refusesOne_367 ?_
  refine r_iconst dL_refusesOne_368 ?_
  refine r_callS (tL_far G _ j 0 2 (by omega)) dL_refusesOne_369 svL_far q545 rfl ⟨Nat.le_of_ble_eq_true rfl, Nat.le_of_ble_eq_true rfl⟩ (Nat.le_of_ble_eq_true rfl) ⟨Nat.le_of_ble_eq_true rfl, Nat.le_of_ble_eq_true rfl⟩ ?_
  rintro _ _ ⟨⟨f14, rfl, o14, u14, w14⟩, rfl⟩
  refine r_iconst dL_refusesOne_372 ?_
  refine r_iconst dL_refusesOne_373 ?_
  have e39 : oPlace A 0 f14 = (2, 0, A) := by unfold oPlace; rw [if_pos (by omega)]; exact if_neg (by omega)
  refine r_kC hD38 EV_ok (tL_call12 G _ 0 f14 0 0 hD38.1 hD38.2.1 (by omega)) (z := (-12)) (cv2 e39) (cva e39) dL_refusesOne_374 q378 q0 q379 pd_call q377 rfl ⟨Nat.le_of_ble_eq_true rfl, Nat.le_of_ble_eq_true rfl⟩ (Nat.le_of_ble_eq_true rfl) ⟨Nat.le_of_ble_eq_true rfl, Nat.le_of_ble_eq_true rfl⟩ (fun s40 hD40 => ?_)
  refine r_bipush dL_refusesOne_377 rfl ?_
  refine r_icmp_neE (tgt := 602) dL_refusesOne_379 (by decide) (rfl) ?_
  refine r_aload_n dL_refusesOne_382 rfl rfl ?_
  refine r_bipush dL_refusesOne_383 rfl ?_
  refine r_iload_n dL_refusesOne_385 rfl rfl ?_
  refine r_iconst dL_refusesOne_386 ?_
  refine r_iconst dL_refusesOne_387 ?_
  refine r_callS (tL_far G _ j 0 2 (by omega)) dL_refusesOne_388 svL_far q545 rfl ⟨Nat.le_of_ble_eq_true rfl, Nat.le_of_ble_eq_true rfl⟩ (Nat.le_of_ble_eq_true rfl) ⟨Nat.le_of_ble_eq_true rfl, Nat.le_of_ble_eq_true rfl⟩ ?_
  rintro _ _ ⟨⟨f15, rfl, o15, u15, w15⟩, rfl⟩
  refine r_iconst dL_refusesOne_391 ?_
  refine r_iconst dL_refusesOne_392 ?_
  refine r_iconst dL_refusesOne_393 ?_
  have e41 : oLooks A f15 = (1, 0, A) := by unfold oLooks; exact if_neg (by omega)
  refine r_kC hD40 EV_ok (tL_call13 G _ f15 0 0 0 hD40.1 hD40.2.1 (by omega)) (z := (-12)) (cv1 e41) (cva e41) dL_refusesOne_394 q378 q0 q379 pd_call q377 rfl ⟨Nat.le_of_ble_eq_true rfl, Nat.le_of_ble_eq_true rfl⟩ (Nat.le_of_ble_eq_true rfl) ⟨Nat.le_of_ble_eq_true rfl, Nat.le_of_ble_eq_true rfl⟩ (fun s42 hD42 => ?_)
  refine r_bipush dL_refusesOne_397 rfl ?_
  refine r_icmp_neE (tgt := 602) dL_refusesOne_399 (by decide) (rfl) ?_
  refine r_aload_n dL_refusesOne_402 rfl rfl ?_
  refine r_bipush dL_refusesOne_403 rfl ?_
  refine r_iload_n dL_refusesOne_405 rfl rfl ?_
  refine r_iconst dL_refusesOne_406 ?_
  refine r_iconst dL_refusesOne_407 ?_
  refine r_callS (tL_far G _ j 0 3 (by omega)) dL_refusesOne_408 svL_far q545 rfl ⟨Nat.le_of_ble_eq_true rfl, Nat.le_of_ble_eq_true rfl⟩ (Nat.le_of_ble_eq_true rfl) ⟨Nat.le_of_ble_eq_true rfl, Nat.le_of_ble_eq_true rfl⟩ ?_
  rintro _ _ ⟨⟨f16, rfl, o16, u16, w16⟩, rfl⟩
  refine r_iconst dL_refusesOne_411 ?_
  refine r_iconst dL_refusesOne_412 ?_
  refine r_iconst dL_refusesOne_413 ?_
  have e43 : oWitness A f16 = (1, 0, A) := by unfold oWitness; exact if_neg (by omega)
  refine r_kC hD42 EV_ok (tL_call14 G _ f16 0 0 0 hD42.1 hD42.2.1 (by omega)) (z := (-12)) (cv1 e43) (cva e43) dL_refusesOne_414 q378 q0 q379 pd_call q377 rfl ⟨Nat.le_of_ble_eq_true rfl, Nat.le_of_ble_eq_true rfl⟩ (Nat.le_of_ble_eq_true rfl) ⟨Nat.le_of_ble_eq_true rfl, Nat.le_of_ble_eq_true rfl⟩ (fun s44 hD44 => ?_)
  refine r_bipush dL_refusesOne_417 rfl ?_
  refine r_icmp_neE (tgt := 602) dL_refusesOne_419 (by decide) (rfl) ?_
  refine r_aload_n dL_refusesOne_422 rfl rfl ?_
  refine r_bipush dL_refusesOne_423 rfl ?_
  refine r_iload_n dL_refusesOne_425 rfl rfl ?_
  refine r_iconst dL_refusesOne_426 ?_
  refine r_bipush dL_refusesOne_427 rfl ?_
  refine r_callS (tL_far G _ j 0 8 (by omega)) dL_refusesOne_429 svL_far q545 rfl ⟨Nat.le_of_ble_eq_true rfl, Nat.le_of_ble_eq_true rfl⟩ (Nat.le_of_ble_eq_true rfl) ⟨Nat.le_of_ble_eq_true rfl, Nat.le_of_ble_eq_true rfl⟩ ?_
  rintro _ _ ⟨⟨f17, rfl, o17, u17, w17⟩, rfl⟩
  refine r_iconst dL_refusesOne_432 ?_
  refine r_iconst dL_refusesOne_433 ?_
  refine r_iconst dL_refusesOne_434 ?_
  have e45 : oCount A f17 = (1, 0, A) := by unfold oCount; exact if_neg (by omega)
  refine r_kC hD44 EV_ok (tL_call15 G _ f17 0 0 0 hD44.1 hD44.2.1 (by omega)) (z := (-12)) (cv1 e45) (cva e45) dL_refusesOne_435 q378 q0 q379 pd_call q377 rfl ⟨Nat.le_of_ble_eq_true rfl, Nat.le_of_ble_eq_true rfl⟩ (Nat.le_of_ble_eq_true rfl) ⟨Nat.le_of_ble_eq_true rfl, Nat.le_of_ble_eq_true rfl⟩ (fun s46 hD46 => ?_)
  refine r_bipush dL_refusesOne_438 rfl ?_
  refine r_icmp_neE (tgt := 602) dL_refusesOne_440 (by decide) (rfl) ?_
  refine r_aload_n dL_refusesOne_443 rfl rfl ?_
  refine r_bipush dL_refusesOne_444 rfl ?_
  refine r_iload_n dL_refusesOne_446 rfl rfl ?_
  refine r_iconst dL_refusesOne_447 ?_
  refine r_aload_n dL_refusesOne_448 rfl rfl ?_
  refine r_iconst dL_refusesOne_449 ?_
  refine r_kX hD46 EV_ok (uX_count G _ 2 hD46.1 hD46.2.1 (by decide)) (oCount_2) dL_refusesOne_450 svX7_count q349 sh0 (ci := 7) rfl rfl rfl ⟨Nat.le_of_ble_eq_true rfl, Nat.le_of_ble_eq_true rfl⟩ (Nat.le_of_ble_eq_true rfl) ⟨Nat.le_of_ble_eq_true rfl, Nat.le_of_ble_eq_true rfl⟩ (fun s47 hD47 => ?_)
  refine r_iconst dL_refusesOne_453 ?_
  refine r_isub dL_refusesOne_454 ?_
  refine r_callS (tL_far G _ j 0 (A.1.2.2.1 - 1) (by omega)) dL_refusesOne_455 svL_far q545 rfl ⟨Nat.le_of_ble_eq_true rfl, Nat.le_of_ble_eq_true rfl⟩ (Nat.le_of_ble_eq_true rfl) ⟨Nat.le_of_ble_eq_true rfl, Nat.le_of_ble_eq_true rfl⟩ ?_
  rintro _ _ ⟨⟨f18, rfl, o18, u18, w18⟩, rfl⟩
  refine r_iconst dL_refusesOne_458 ?_
  refine r_iconst dL_refusesOne_459 ?_
  refine r_iconst dL_refusesOne_460 ?_
  have e48 : oWeight A f18 = (1, 0, A) := by unfold oWeight; exact if_neg (by omega)
  refine r_kC hD47 EV_ok (tL_call16 G _ f18 0 0 0 hD47.1 hD47.2.1 (by omega)) (z := (-11)) (cv1 e48) (cva e48) dL_refusesOne_461 q378 q0 q379 pd_call q377 rfl ⟨Nat.le_of_ble_eq_true rfl, Nat.le_of_ble_eq_true rfl⟩ (Nat.le_of_ble_eq_true rfl) ⟨Nat.le_of_ble_eq_true rfl, Nat.le_of_ble_eq_true rfl⟩ (fun s49 hD49 => ?_)
  refine r_bipush dL_refusesOne_464 rfl ?_
  refine r_icmp_neE (tgt := 602) dL_refusesOne_466 (by decide) (rfl) ?_
  refine r_aload_n dL_refusesOne_469 rfl rfl ?_
  refine r_bipush dL_refusesOne_470 rfl ?_
  refine r_iload_n dL_refusesOne_472 rfl rfl ?_
  refine r_iconst dL_refusesOne_473 ?_
  refine r_aload_n dL_refusesOne_474 rfl rfl ?_
  refine r_iconst dL_refusesOne_475 ?_
  refine r_kX hD49 EV_ok (uX_count G _ 2 hD49.1 hD49.2.1 (by decide)) (oCount_2) dL_refusesOne_476 svX7_count q349 sh0 (ci := 7) rfl rfl rfl ⟨Nat.le_of_ble_eq_true rfl, Nat.le_of_ble_eq_true rfl⟩ (Nat.le_of_ble_eq_true rfl) ⟨Nat.le_of_ble_eq_true rfl, Nat.le_of_ble_eq_true rfl⟩ (fun s50 hD50 => ?_)
  refine r_callS (tL_far G _ j 1 A.1.2.2.1 (by omega)) dL_refusesOne_479 svL_far q545 rfl ⟨Nat.le_of_ble_eq_true rfl, Nat.le_of_ble_eq_true rfl⟩ (Nat.le_of_ble_eq_true rfl) ⟨Nat.le_of_ble_eq_true rfl, Nat.le_of_ble_eq_true rfl⟩ ?_
  rintro _ _ ⟨⟨f19, rfl, o19, u19, w19⟩, rfl⟩
  refine r_iconst dL_refusesOne_482 ?_
  refine r_iconst dL_refusesOne_483 ?_
  refine r_iconst dL_refusesOne_484 ?_
  have e51 : oCost A f19 0 = (1, 0, A) := by unfold oCost; exact if_neg (by omega)
  refine r_kC hD50 EV_ok (tL_call17 G _ f19 0 0 0 hD50.1 hD50.2.1 (by omega)) (z := (-12)) (cv1 e51) (cva e51) dL_refusesOne_485 q378 q0 q379 pd_call q377 rfl ⟨Nat.le_of_ble_eq_true rfl, Nat.le_of_ble_eq_true rfl⟩ (Nat.le_of_ble_eq_true rfl) ⟨Nat.le_of_ble_eq_true rfl, Nat.le_of_ble_eq_true rfl⟩ (fun s52 hD52 => ?_)
  refine r_bipush dL_refusesOne_488 rfl ?_
  refine r_icmp_neE (tgt := 602) dL_refusesOne_490 (by decide) (rfl) ?_
  refine r_aload_n dL_refusesOne_493 rfl rfl ?_
  refine r_bipush dL_refusesOne_494 rfl ?_
  refine r_iconst dL_refusesOne_496 ?_
  refine r_iload_n dL_refusesOne_497 rfl rfl ?_
  refine r_iconst dL_refusesOne_498 ?_
  refine r_iconst dL_refusesOne_499 ?_
  refine r_callS (tL_far G _ j 0 1 (by omega)) dL_refusesOne_500 svL_far q545 rfl ⟨Nat.le_of_ble_eq_true rfl, Nat.le_of_ble_eq_true rfl⟩ (Nat.le_of_ble_eq_true rfl) ⟨Nat.le_of_ble_eq_true rfl, Nat.le_of_ble_eq_true rfl⟩ ?_
  rintro _ _ ⟨⟨f20, rfl, o20, u20, w20⟩, rfl⟩
  refine r_iconst dL_refusesOne_503 ?_
  refine r_iconst dL_refusesOne_504 ?_
  have e53 : oCost A 1 f20 = (1, 0, A) := by unfold oCost; exact if_neg (by omega)
  refine r_kC hD52 EV_ok (tL_call17 G _ 1 f20 0 0 hD52.1 hD52.2.1 (by omega)) (z := (-12)) (cv1 e53) (cva e53) dL_refusesOne_505 q378 q0 q379 pd_call q377 rfl ⟨Nat.le_of_ble_eq_true rfl, Nat.le_of_ble_eq_true rfl⟩ (Nat.le_of_ble_eq_true rfl) ⟨Nat.le_of_ble_eq_true rfl, Nat.le_of_ble_eq_true rfl⟩ (fun s54 hD54 => ?_)
  refine r_bipush dL_refusesOne_508 rfl ?_
  refine r_icmp_neE (tgt := 602) dL_refusesOne_510 (by decide) (rfl) ?_
  refine r_aload_n dL_refusesOne_513 rfl rfl ?_
  refine r_bipush dL_refusesOne_514 rfl ?_
  refine r_iload_n dL_refusesOne_516 rfl rfl ?_
  refine r_iconst dL_refusesOne_517 ?_
  refine r_aload_n dL_refusesOne_518 rfl rfl ?_
  refine r_iconst dL_refusesOne_519 ?_
  refine r_kX hD54 EV_ok (uX_count G _ 2 hD54.1 hD54.2.1 (by decide)) (oCount_2) dL_refusesOne_520 svX7_count q349 sh0 (ci := 7) rfl rfl rfl ⟨Nat.le_of_ble_eq_true rfl, Nat.le_of_ble_eq_true rfl⟩ (Nat.le_of_ble_eq_true rfl) ⟨Nat.le_of_ble_eq_true rfl, Nat.le_of_ble_eq_true rfl⟩ (fun s55 hD55 => ?_)
  refine r_callS (tL_far G _ j 1 A.1.2.2.1 (by omega)) dL_refusesOne_523 svL_far q545 rfl ⟨Nat.le_of_ble_eq_true rfl, Nat.le_of_ble_eq_true rfl⟩ (Nat.le_of_ble_eq_true rfl) ⟨Nat.le_of_ble_eq_true rfl, Nat.le_of_ble_eq_true rfl⟩ ?_
  rintro _ _ ⟨⟨f21, rfl, o21, u21, w21⟩, rfl⟩
  refine r_iconst dL_refusesOne_526 ?_
  refine r_iconst dL_refusesOne_527 ?_
  refine r_iconst dL_refusesOne_528 ?_
  have e56 : oCut A f21 0 = (1, 0, A) := by unfold oCut; exact if_neg (by omega)
  refine r_kC hD55 EV_ok (tL_call18 G _ f21 0 0 0 hD55.1 hD55.2.1 (by omega)) (z := (-12)) (cv1 e56) (cva e56) dL_refusesOne_529 q378 q0 q379 pd_call q377 rfl ⟨Nat.le_of_ble_eq_true rfl, Nat.le_of_ble_eq_true rfl⟩ (Nat.le_of_ble_eq_true rfl) ⟨Nat.le_of_ble_eq_true rfl, Nat.le_of_ble_eq_true rfl⟩ (fun s57 hD57 => ?_)
  refine r_bipush dL_refusesOne_532 rfl ?_
  refine r_icmp_neE (tgt := 602) dL_refusesOne_534 (by decide) (rfl) ?_
  refine r_aload_n dL_refusesOne_537 rfl rfl ?_
  refine r_bipush dL_refusesOne_538 rfl ?_
  refine r_iconst dL_refusesOne_540 ?_
  refine r_iload_n dL_refusesOne_541 rfl rfl ?_
  refine r_iconst dL_refusesOne_542 ?_
  refine r_icmp_ne (tgt := 551) dL_refusesOne_543 (by decide) (by omega) (fun hb58 => ?_) (fun hb58 => ?_)
  · skip
    refine r_iconst dL_refusesOne_551 ?_
    refine r_iconst dL_refusesOne_552 ?_
    refine r_iconst dL_refusesOne_553 ?_
    have e59 : oCut A 1 (-1) = (1, 0, A) := by unfold oCut; exact if_neg (by omega)
    refine r_kC hD57 EV_ok (tL_call18 G _ 1 (-1) 0 0 hD57.1 hD57.2.1 (by omega)) (z := (-12)) (cv1 e59) (cva e59) dL_refusesOne_554 q378 q0 q379 pd_call q377 rfl ⟨Nat.le_of_ble_eq_true rfl, Nat.le_of_ble_eq_true rfl⟩ (Nat.le_of_ble_eq_true rfl) ⟨Nat.le_of_ble_eq_true rfl, Nat.le_of_ble_eq_true rfl⟩ (fun s60 hD60 => ?_)
    refine r_bipush dL_refusesOne_557 rfl ?_
    refine r_icmp_neE (tgt := 602) dL_refusesOne_559 (by decide) (rfl) ?_
    refine r_aload_n dL_refusesOne_562 rfl rfl ?_
    refine r_bipush dL_refusesOne_563 rfl ?_
    refine r_iconst dL_refusesOne_565 ?_
    refine r_ldc (z := 2147483647) dL_refusesOne_566 q372 ?_
    refine r_iconst dL_refusesOne_568 ?_
    refine r_iconst dL_refusesOne_569 ?_
    have e61 : oCut A 1 2147483647 = (0, -1, A) := by unfold oCut; rw [if_pos (by omega), if_pos (by decide)]
    refine r_kC hD60 EV_ok (tL_call18 G _ 1 2147483647 0 0 hD60.1 hD60.2.1 (by omega)) (z := (-1)) (cv0 e61) (cva e61) dL_refusesOne_570 q378 q0 q379 pd_call q377 rfl ⟨Nat.le_of_ble_eq_true rfl, Nat.le_of_ble_eq_true rfl⟩ (Nat.le_of_ble_eq_true rfl) ⟨Nat.le_of_ble_eq_true rfl, Nat.le_of_ble_eq_true rfl⟩ (fun s62 hD62 => ?_)
    refine r_iconst dL_refusesOne_573 ?_
    refine r_icmp_neE (tgt := 602) dL_refusesOne_574 (by decide) (rfl) ?_
    refine r_aload_n dL_refusesOne_577 rfl rfl ?_
    refine r_bipush dL_refusesOne_578 rfl ?_
    refine r_iload_n dL_refusesOne_580 rfl rfl ?_
    refine r_iconst dL_refusesOne_581 ?_
    refine r_ldc (z := 999999) dL_refusesOne_582 q549 ?_
    refine r_callS (tL_far G _ j 1 999999 (by omega)) dL_refusesOne_584 svL_far q545 rfl ⟨Nat.le_of_ble_eq_true rfl, Nat.le_of_ble_eq_true rfl⟩ (Nat.le_of_ble_eq_true rfl) ⟨Nat.le_of_ble_eq_true rfl, Nat.le_of_ble_eq_true rfl⟩ ?_
    rintro _ _ ⟨⟨f22, rfl, o22, u22, w22⟩, rfl⟩
    refine r_iconst dL_refusesOne_587 ?_
    refine r_iconst dL_refusesOne_588 ?_
    refine r_iconst dL_refusesOne_589 ?_
    have e63 : oFewest A f22 = (1, 0, A) := by unfold oFewest; exact if_neg (by omega)
    refine r_kC hD62 EV_ok (tL_call19 G _ f22 0 0 0 hD62.1 hD62.2.1 (by omega)) (z := (-12)) (cv1 e63) (cva e63) dL_refusesOne_590 q378 q0 q379 pd_call q377 rfl ⟨Nat.le_of_ble_eq_true rfl, Nat.le_of_ble_eq_true rfl⟩ (Nat.le_of_ble_eq_true rfl) ⟨Nat.le_of_ble_eq_true rfl, Nat.le_of_ble_eq_true rfl⟩ (fun s64 hD64 => ?_)
    refine r_bipush dL_refusesOne_593 rfl ?_
    refine r_icmp_neE (tgt := 602) dL_refusesOne_595 (by decide) (rfl) ?_
    refine r_iconst dL_refusesOne_598 ?_
    refine r_goto (tgt := 603) dL_refusesOne_599 (by decide) ?_
    refine r_widen (k2 := 45) (n2 := 270) (Nat.le_of_ble_eq_true rfl) (Nat.le_of_ble_eq_true rfl) ?_
    exact r_zret dL_refusesOne_603 rfl (by first | rfl | decide) (by rw [hP]; exact ⟨rfl, hD64⟩)
  · skip
    refine r_ldc (z := (-2147483648)) dL_refusesOne_546 qm91 ?_
    refine r_goto (tgt := 552) dL_refusesOne_548 (by decide) ?_
    refine r_iconst dL_refusesOne_552 ?_
    refine r_iconst dL_refusesOne_553 ?_
    have e59 : oCut A 1 (-2147483648) = (1, 0, A) := by unfold oCut; exact if_neg (by omega)
    refine r_kC hD57 EV_ok (tL_call18 G _ 1 (-2147483648) 0 0 hD57.1 hD57.2.1 (by omega)) (z := (-12)) (cv1 e59) (cva e59) dL_refusesOne_554 q378 q0 q379 pd_call q377 rfl ⟨Nat.le_of_ble_eq_true rfl, Nat.le_of_ble_eq_true rfl⟩ (Nat.le_of_ble_eq_true rfl) ⟨Nat.le_of_ble_eq_true rfl, Nat.le_of_ble_eq_true rfl⟩ (fun s60 hD60 => ?_)
    refine r_bipush dL_refusesOne_557 rfl ?_
    refine r_icmp_neE (tgt := 602) dL_refusesOne_559 (by decide) (rfl) ?_
    refine r_aload_n dL_refusesOne_562 rfl rfl ?_
    refine r_bipush dL_refusesOne_563 rfl ?_
    refine r_iconst dL_refusesOne_565 ?_
    refine r_ldc (z := 2147483647) dL_refusesOne_566 q372 ?_
    refine r_iconst dL_refusesOne_568 ?_
    refine r_iconst dL_refusesOne_569 ?_
    have e61 : oCut A 1 2147483647 = (0, -1, A) := by unfold oCut; rw [if_pos (by omega), if_pos (by decide)]
    refine r_kC hD60 EV_ok (tL_call18 G _ 1 2147483647 0 0 hD60.1 hD60.2.1 (by omega)) (z := (-1)) (cv0 e61) (cva e61) dL_refusesOne_570 q378 q0 q379 pd_call q377 rfl ⟨Nat.le_of_ble_eq_true rfl, Nat.le_of_ble_eq_true rfl⟩ (Nat.le_of_ble_eq_true rfl) ⟨Nat.le_of_ble_eq_true rfl, Nat.le_of_ble_eq_true rfl⟩ (fun s62 hD62 => ?_)
    refine r_iconst dL_refusesOne_573 ?_
    refine r_icmp_neE (tgt := 602) dL_refusesOne_574 (by decide) (rfl) ?_
    refine r_aload_n dL_refusesOne_577 rfl rfl ?_
    refine r_bipush dL_refusesOne_578 rfl ?_
    refine r_iload_n dL_refusesOne_580 rfl rfl ?_
    refine r_iconst dL_refusesOne_581 ?_
    refine r_ldc (z := 999999) dL_refusesOne_582 q549 ?_
    refine r_callS (tL_far G _ j 1 999999 (by omega)) dL_refusesOne_584 svL_far q545 rfl ⟨Nat.le_of_ble_eq_true rfl, Nat.le_of_ble_eq_true rfl⟩ (Nat.le_of_ble_eq_true rfl) ⟨Nat.le_of_ble_eq_true rfl, Nat.le_of_ble_eq_true rfl⟩ ?_
    rintro _ _ ⟨⟨f23, rfl, o23, u23, w23⟩, rfl⟩
    refine r_iconst dL_refusesOne_587 ?_
    refine r_iconst dL_refusesOne_588 ?_
    refine r_iconst dL_refusesOne_589 ?_
    have e63 : oFewest A f23 = (1, 0, A) := by unfold oFewest; exact if_neg (by omega)
    refine r_kC hD62 EV_ok (tL_call19 G _ f23 0 0 0 hD62.1 hD62.2.1 (by omega)) (z := (-12)) (cv1 e63) (cva e63) dL_refusesOne_590 q378 q0 q379 pd_call q377 rfl ⟨Nat.le_of_ble_eq_true rfl, Nat.le_of_ble_eq_true rfl⟩ (Nat.le_of_ble_eq_true rfl) ⟨Nat.le_of_ble_eq_true rfl, Nat.le_of_ble_eq_true rfl⟩ (fun s64 hD64 => ?_)
    refine r_bipush dL_refusesOne_593 rfl ?_
    refine r_icmp_neE (tgt := 602) dL_refusesOne_595 (by decide) (rfl) ?_
    refine r_iconst dL_refusesOne_598 ?_
    refine r_goto (tgt := 603) dL_refusesOne_599 (by decide) ?_
    refine r_widen (k2 := 45) (n2 := 270) (Nat.le_of_ble_eq_true rfl) (Nat.le_of_ble_eq_true rfl) ?_
    exact r_zret dL_refusesOne_603 rfl (by first | rfl | decide) (by rw [hP]; exact ⟨rfl, hD64⟩)
set_option maxHeartbeats 1000000 in
set_option maxRecDepth 100000 in
theorem tL_refused (G : GT) (σ : Sg)  {A : Ab} (hci : CI σ) (ha : absC σ = A) (hB : A.2.2.2.2 = []) : CtY G mL_refused 21 880 5280 false false (SH Ω) (SH Ω) [Rf G 0] σ (YP σ (I 1) A) := by
  obtain ⟨P, hP⟩ : ∃ P : Option Value → Sg → Prop, P = (YP σ (I 1) A) := ⟨_, rfl⟩
  rw [← hP]
  refine cty_of (lv := [(0, Rf G 0)]) (by decide +kernel) (Nat.le_of_ble_eq_true rfl) rfl ?_
  have hD : Done σ σ A := Done.rf hci ha
  have hO := hD.ok
  obtain ⟨⟨hR, hC, hW, hT, hTz, hw, hwz⟩, hO2⟩ := hO
  refine r_aload_n dL_refused_0 rfl rfl ?_
  refine r_kY hD EV_ok (tL_seen G _ hD.1 hD.2.1) dL_refused_1 svL_seen q529 rfl ⟨Nat.le_of_ble_eq_true rfl, Nat.le_of_ble_eq_true rfl⟩ (Nat.le_of_ble_eq_true rfl) ⟨Nat.le_of_ble_eq_true rfl, Nat.le_of_ble_eq_true rfl⟩ (fun s1 hD1 => ?_)
  refine r_lstore_n (lv' := [(0, Rf G 0), (1, Lg (seenF A.1))]) dL_refused_4 rfl (Nat.le_of_ble_eq_true rfl) rfl ?_
  refine r_aload_n dL_refused_5 rfl rfl ?_
  refine r_bipush dL_refused_6 rfl ?_
  refine r_kX hD1 EV_ok (uX_count G _ 8 hD1.1 hD1.2.1 (by decide)) (oCount_8) dL_refused_8 svX7_count q349 sh0 (ci := 7) rfl rfl rfl ⟨Nat.le_of_ble_eq_true rfl, Nat.le_of_ble_eq_true rfl⟩ (Nat.le_of_ble_eq_true rfl) ⟨Nat.le_of_ble_eq_true rfl, Nat.le_of_ble_eq_true rfl⟩ (fun s2 hD2 => ?_)
  refine r_istore_n (lv' := [(0, Rf G 0), (1, Lg (seenF A.1)), (3, I (A.2.1.length : Int))]) dL_refused_11 rfl (Nat.le_of_ble_eq_true rfl) rfl ?_
  refine r_iconst dL_refused_12 ?_
  refine r_istore (lv' := [(0, Rf G 0), (1, Lg (seenF A.1)), (3, I (A.2.1.length : Int)), (4, I 0)]) dL_refused_13 (Nat.le_of_ble_eq_true rfl) rfl ?_
  refine r_iload dL_refused_15 rfl ?_
  refine r_iconst dL_refused_17 ?_
  refine r_icmp_ge (tgt := 38) dL_refused_18 (by decide) (by omega) (fun hb3 => absurd hb3 (by omega)) (fun hb3 => ?_)
  refine r_aload_n dL_refused_21 rfl rfl ?_
  refine r_iload dL_refused_22 rfl ?_
  refine r_kY hD2 EV_ok (tL_refusesOne G _ 0 hD2.1 hD2.2.1 (by decide) hB) dL_refused_24 svL_refusesOne q542 rfl ⟨Nat.le_of_ble_eq_true rfl, Nat.le_of_ble_eq_true rfl⟩ (Nat.le_of_ble_eq_true rfl) ⟨Nat.le_of_ble_eq_true rfl, Nat.le_of_ble_eq_true rfl⟩ (fun s4 hD4 => ?_)
  refine r_if_ne (tgt := 32) dL_refused_27 (by decide) (by omega) (fun hb5 => ?_) (fun hb5 => absurd hb5 (by omega))
  refine r_iinc (lv' := [(0, Rf G 0), (1, Lg (seenF A.1)), (3, I (A.2.1.length : Int)), (4, I (0 + 1))]) dL_refused_32 (Nat.le_of_ble_eq_true rfl) rfl rfl ?_
  rw [show 0 + 1 = (1 : Int) from rfl]
  refine r_goto (tgt := 15) dL_refused_35 (by decide) ?_
  refine r_iload dL_refused_15 rfl ?_
  refine r_iconst dL_refused_17 ?_
  refine r_icmp_ge (tgt := 38) dL_refused_18 (by decide) (by omega) (fun hb6 => absurd hb6 (by omega)) (fun hb6 => ?_)
  refine r_aload_n dL_refused_21 rfl rfl ?_
  refine r_iload dL_refused_22 rfl ?_
  refine r_kY hD4 EV_ok (tL_refusesOne G _ 1 hD4.1 hD4.2.1 (by decide) hB) dL_refused_24 svL_refusesOne q542 rfl ⟨Nat.le_of_ble_eq_true rfl, Nat.le_of_ble_eq_true rfl⟩ (Nat.le_of_ble_eq_true rfl) ⟨Nat.le_of_ble_eq_true rfl, Nat.le_of_ble_eq_true rfl⟩ (fun s7 hD7 => ?_)
  refine r_if_ne (tgt := 32) dL_refused_27 (by decide) (by omega) (fun hb8 => ?_) (fun hb8 => absurd hb8 (by omega))
  refine r_iinc (lv' := [(0, Rf G 0), (1, Lg (seenF A.1)), (3, I (A.2.1.length : Int)), (4, I (1 + 1))]) dL_refused_32 (Nat.le_of_ble_eq_true rfl) rfl rfl ?_
  rw [show 1 + 1 = (2 : Int) from rfl]
  refine r_goto (tgt := 15) dL_refused_35 (by decide) ?_
  refine r_iload dL_refused_15 rfl ?_
  refine r_iconst dL_refused_17 ?_
  refine r_icmp_ge (tgt := 38) dL_refused_18 (by decide) (by omega) (fun hb9 => absurd hb9 (by omega)) (fun hb9 => ?_)
  refine r_aload_n dL_refused_21 rfl rfl ?_
  refine r_iload dL_refused_22 rfl ?_
  refine r_kY hD7 EV_ok (tL_refusesOne G _ 2 hD7.1 hD7.2.1 (by decide) hB) dL_refused_24 svL_refusesOne q542 rfl ⟨Nat.le_of_ble_eq_true rfl, Nat.le_of_ble_eq_true rfl⟩ (Nat.le_of_ble_eq_true rfl) ⟨Nat.le_of_ble_eq_true rfl, Nat.le_of_ble_eq_true rfl⟩ (fun s10 hD10 => ?_)
  refine r_if_ne (tgt := 32) dL_refused_27 (by decide) (by omega) (fun hb11 => ?_) (fun hb11 => absurd hb11 (by omega))
  refine r_iinc (lv' := [(0, Rf G 0), (1, Lg (seenF A.1)), (3, I (A.2.1.length : Int)), (4, I (2 + 1))]) dL_refused_32 (Nat.le_of_ble_eq_true rfl) rfl rfl ?_
  rw [show 2 + 1 = (3 : Int) from rfl]
  refine r_goto (tgt := 15) dL_refused_35 (by decide) ?_
  refine r_iload dL_refused_15 rfl ?_
  refine r_iconst dL_refused_17 ?_
  refine r_icmp_ge (tgt := 38) dL_refused_18 (by decide) (by omega) (fun hb12 => absurd hb12 (by omega)) (fun hb12 => ?_)
  refine r_aload_n dL_refused_21 rfl rfl ?_
  refine r_iload dL_refused_22 rfl ?_
  refine r_kY hD10 EV_ok (tL_refusesOne G _ 3 hD10.1 hD10.2.1 (by decide) hB) dL_refused_24 svL_refusesOne q542 rfl ⟨Nat.le_of_ble_eq_true rfl, Nat.le_of_ble_eq_true rfl⟩ (Nat.le_of_ble_eq_true rfl) ⟨Nat.le_of_ble_eq_true rfl, Nat.le_of_ble_eq_true rfl⟩ (fun s13 hD13 => ?_)
  refine r_if_ne (tgt := 32) dL_refused_27 (by decide) (by omega) (fun hb14 => ?_) (fun hb14 => absurd hb14 (by omega))
  refine r_iinc (lv' := [(0, Rf G 0), (1, Lg (seenF A.1)), (3, I (A.2.1.length : Int)), (4, I (3 + 1))]) dL_refused_32 (Nat.le_of_ble_eq_true rfl) rfl rfl ?_
  rw [show 3 + 1 = (4 : Int) from rfl]
  refine r_goto (tgt := 15) dL_refused_35 (by decide) ?_
  refine r_iload dL_refused_15 rfl ?_
  refine r_iconst dL_refused_17 ?_
  refine r_icmp_ge (tgt := 38) dL_refused_18 (by decide) (by omega) (fun hb15 => ?_) (fun hb15 => absurd hb15 (by omega))
  refine r_aload_n dL_refused_38 rfl rfl ?_
  refine r_kY hD13 EV_ok (tL_seen G _ hD13.1 hD13.2.1) dL_refused_39 svL_seen q529 rfl ⟨Nat.le_of_ble_eq_true rfl, Nat.le_of_ble_eq_true rfl⟩ (Nat.le_of_ble_eq_true rfl) ⟨Nat.le_of_ble_eq_true rfl, Nat.le_of_ble_eq_true rfl⟩ (fun s16 hD16 => ?_)
  refine r_lload_n dL_refused_42 rfl rfl ?_
  refine r_lcmpE dL_refused_43 ?_
  refine r_if_ne (tgt := 61) dL_refused_44 (by decide) (by omega) (fun hb17 => absurd hb17 (by omega)) (fun hb17 => ?_)
  refine r_aload_n dL_refused_47 rfl rfl ?_
  refine r_bipush dL_refused_48 rfl ?_
  refine r_kX hD16 EV_ok (uX_count G _ 8 hD16.1 hD16.2.1 (by decide)) (oCount_8) dL_refused_50 svX7_count q349 sh0 (ci := 7) rfl rfl rfl ⟨Nat.le_of_ble_eq_true rfl, Nat.le_of_ble_eq_true rfl⟩ (Nat.le_of_ble_eq_true rfl) ⟨Nat.le_of_ble_eq_true rfl, Nat.le_of_ble_eq_true rfl⟩ (fun s18 hD18 => ?_)
  refine r_iload_n dL_refused_53 rfl rfl ?_
  refine r_icmp_neE (tgt := 61) dL_refused_54 (by decide) (rfl) ?_
  refine r_iconst dL_refused_57 ?_
  refine r_goto (tgt := 62) dL_refused_58 (by decide) ?_
  refine r_widen (k2 := 880) (n2 := 5280) (Nat.le_of_ble_eq_true rfl) (Nat.le_of_ble_eq_true rfl) ?_
  exact r_zret dL_refused_62 rfl (by first | rfl | decide) (by rw [hP]; exact ⟨rfl, hD18⟩)
