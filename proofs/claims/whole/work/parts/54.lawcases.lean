
theorem im_c {σ τ : Sg} (h : ∀ a, 46 ≤ a → a < 59 → τ a = σ a) (hm : IM σ) : IM τ ∧ absM τ = absM σ := by
  have hx : absM τ = absM σ := by
    unfold absM
    rw [h 47 (by decide) (by decide), hiM_c (h 48 (by decide) (by decide)) (by rw [h 46 (by decide) (by decide)]), slM_c (h 49 (by decide) (by decide)) (h 50 (by decide) (by decide)), slM_c (h 49 (by decide) (by decide)) (h 50 (by decide) (by decide)), h 51 (by decide) (by decide), h 46 (by decide) (by decide)]
  obtain ⟨a1, a2, a3, a4, a5⟩ := hm
  refine ⟨⟨?_, ?_, ?_, ?_, ?_⟩, hx⟩
  · unfold P52; rw [h 52 (by decide) (by decide)]; exact a1
  · rw [h 46 (by decide) (by decide)]; exact a2
  · rw [h 46 (by decide) (by decide)]; exact a3
  · rw [h 50 (by decide) (by decide)]; exact a4
  · rw [hx]; exact a5
theorem ci_c {σ τ : Sg} (e : ∀ a, a < 46 → τ a = σ a) (hc : CI σ) : CI τ ∧ absC τ = absC σ := by
  have hx : absC τ = absC σ := by
    unfold absC
    rw [hiC_c (fun a h1 h2 => e a (by omega)), slC_c (e 38 (by decide)) (e 39 (by decide)) (e 40 (by decide)) (e 41 (by decide)), slC_c (e 42 (by decide)) (e 43 (by decide)) (e 44 (by decide)) (e 45 (by decide)), e 16 (by decide), e 15 (by decide), stC_c (e 1 (by decide)) (e 2 (by decide)) (e 3 (by decide))]
  obtain ⟨a1, a2, a3, a4, a5, a6⟩ := hc
  refine ⟨⟨?_, ?_, ?_, ?_, ?_, ?_⟩, hx⟩
  · unfold ScC; rw [e 6 (by decide), e 11 (by decide), e 13 (by decide)]; exact a1
  · unfold HistOK; rw [e 18 (by decide)]; exact a2
  · rw [e 15 (by decide)]; exact a3
  · rw [e 38 (by decide), e 42 (by decide)]; exact a4
  · rw [e 2 (by decide)]; exact a5
  · rw [hx]; exact a6
/-- what holds between two calls of the law -/
def LI (σ : Sg) : Prop := CI σ ∧ IM σ ∧ absC σ = absM σ
theorem li_end {s t : Sg} {A : Ab} (hc : CI s) (ha : absC s = A) (hd : DoneM s t A) : LI t := by
  obtain ⟨h1, h2, h3⟩ := hd
  have h4 := ci_c (fun a h => h3 a (Or.inl h)) hc
  exact ⟨h4.1, h1, by rw [h4.2, ha, h2]⟩

theorem pd_L_size : (parseMethodDescriptor mL_size.1.desc).map (fun d => d.parameters.length) = some 4 := by decide +kernel
theorem oSize_b {A : Ab} {r c : Int} : 0 ≤ (oSize A r c).1 ∧ (oSize A r c).1 ≤ 2 := by
  unfold oSize
  (repeat' split) <;> simp
theorem pd_L_put : (parseMethodDescriptor mL_put.1.desc).map (fun d => d.parameters.length) = some 5 := by decide +kernel
theorem oPut_b {A : Ab} {r c v : Int} : 0 ≤ (oPut A r c v).1 ∧ (oPut A r c v).1 ≤ 2 := by
  unfold oPut
  (repeat' split) <;> simp
theorem pd_L_points : (parseMethodDescriptor mL_points.1.desc).map (fun d => d.parameters.length) = some 6 := by decide +kernel
theorem oPoints_b {A : Ab} {a b c d : Int} : 0 ≤ (oPoints A a b c d).1 ∧ (oPoints A a b c d).1 ≤ 2 := by
  unfold oPoints
  (repeat' split) <;> simp
theorem pd_L_find : (parseMethodDescriptor mL_find.1.desc).map (fun d => d.parameters.length) = some 3 := by decide +kernel
theorem oFind_b {A : Ab} {w : Int} : 0 ≤ (oFind A w).1 ∧ (oFind A w).1 ≤ 2 := by
  unfold oFind
  (repeat' split) <;> simp
theorem pd_L_weigh : (parseMethodDescriptor mL_weigh.1.desc).map (fun d => d.parameters.length) = some 3 := by decide +kernel
theorem oWeigh_b {A : Ab} {v : Int} : 0 ≤ (oWeigh A v).1 ∧ (oWeigh A v).1 ≤ 2 := by
  unfold oWeigh
  (repeat' split) <;> simp
theorem pd_L_unweigh : (parseMethodDescriptor mL_unweigh.1.desc).map (fun d => d.parameters.length) = some 2 := by decide +kernel
theorem oUnweigh_b {A : Ab} : 0 ≤ (oUnweigh A).1 ∧ (oUnweigh A).1 ≤ 2 := by
  unfold oUnweigh
  (repeat' split) <;> simp
theorem pd_L_append : (parseMethodDescriptor mL_append.1.desc).map (fun d => d.parameters.length) = some 3 := by decide +kernel
theorem oAppend_b {A : Ab} {c : Int} : 0 ≤ (oAppend A c).1 ∧ (oAppend A c).1 ≤ 2 := by
  unfold oAppend
  (repeat' split) <;> simp
theorem pd_L_load : (parseMethodDescriptor mL_load.1.desc).map (fun d => d.parameters.length) = some 2 := by decide +kernel
theorem oLoad_b {A : Ab} : 0 ≤ (oLoad A).1 ∧ (oLoad A).1 ≤ 2 := by
  unfold oLoad
  (repeat' split) <;> simp
theorem pd_L_keep : (parseMethodDescriptor mL_keep.1.desc).map (fun d => d.parameters.length) = some 3 := by decide +kernel
theorem oKeep_b {A : Ab} {k : Int} : 0 ≤ (oKeep A k).1 ∧ (oKeep A k).1 ≤ 2 := by
  unfold oKeep
  (repeat' split) <;> simp
theorem pd_L_goBack : (parseMethodDescriptor mL_goBack.1.desc).map (fun d => d.parameters.length) = some 3 := by decide +kernel
theorem oBack_b {A : Ab} {k : Int} : 0 ≤ (oBack A k).1 ∧ (oBack A k).1 ≤ 2 := by
  unfold oBack bkA
  (repeat' split) <;> simp
theorem pd_L_undo : (parseMethodDescriptor mL_undo.1.desc).map (fun d => d.parameters.length) = some 2 := by decide +kernel
theorem oUndo_b {A : Ab} : 0 ≤ (oUndo A).1 ∧ (oUndo A).1 ≤ 2 := by
  unfold oUndo
  (repeat' split) <;> simp
theorem pd_L_cell : (parseMethodDescriptor mL_cell.1.desc).map (fun d => d.parameters.length) = some 4 := by decide +kernel
theorem oCell_b {A : Ab} {r c : Int} : 0 ≤ (oCell A r c).1 ∧ (oCell A r c).1 ≤ 2 := by
  unfold oCell
  (repeat' split) <;> simp
theorem pd_L_place : (parseMethodDescriptor mL_place.1.desc).map (fun d => d.parameters.length) = some 4 := by decide +kernel
theorem oPlace_b {A : Ab} {r w : Int} : 0 ≤ (oPlace A r w).1 ∧ (oPlace A r w).1 ≤ 2 := by
  unfold oPlace
  (repeat' split) <;> simp
theorem pd_L_looks : (parseMethodDescriptor mL_looks.1.desc).map (fun d => d.parameters.length) = some 3 := by decide +kernel
theorem oLooks_b {A : Ab} {w : Int} : 0 ≤ (oLooks A w).1 ∧ (oLooks A w).1 ≤ 2 := by
  unfold oLooks
  (repeat' split) <;> simp
theorem pd_L_witness : (parseMethodDescriptor mL_witness.1.desc).map (fun d => d.parameters.length) = some 3 := by decide +kernel
theorem oWitness_b {A : Ab} {k : Int} : 0 ≤ (oWitness A k).1 ∧ (oWitness A k).1 ≤ 2 := by
  unfold oWitness
  (repeat' split) <;> simp
theorem pd_L_count : (parseMethodDescriptor mL_count.1.desc).map (fun d => d.parameters.length) = some 3 := by decide +kernel
theorem oCount_b {A : Ab} {k : Int} : 0 ≤ (oCount A k).1 ∧ (oCount A k).1 ≤ 2 := by
  unfold oCount
  (repeat' split) <;> simp
theorem pd_L_weight : (parseMethodDescriptor mL_weight.1.desc).map (fun d => d.parameters.length) = some 3 := by decide +kernel
theorem oWeight_b {A : Ab} {i : Int} : 0 ≤ (oWeight A i).1 ∧ (oWeight A i).1 ≤ 2 := by
  unfold oWeight
  (repeat' split) <;> simp
theorem pd_L_cost : (parseMethodDescriptor mL_cost.1.desc).map (fun d => d.parameters.length) = some 4 := by decide +kernel
theorem oCost_b {A : Ab} {p k : Int} : 0 ≤ (oCost A p k).1 ∧ (oCost A p k).1 ≤ 2 := by
  unfold oCost
  (repeat' split) <;> simp
theorem pd_L_cut : (parseMethodDescriptor mL_cut.1.desc).map (fun d => d.parameters.length) = some 4 := by decide +kernel
theorem oCut_b {A : Ab} {p c : Int} : 0 ≤ (oCut A p c).1 ∧ (oCut A p c).1 ≤ 2 := by
  unfold oCut
  (repeat' split) <;> simp
theorem pd_L_fewestParts : (parseMethodDescriptor mL_fewestParts.1.desc).map (fun d => d.parameters.length) = some 3 := by decide +kernel
theorem oFewest_b {A : Ab} {m : Int} : 0 ≤ (oFewest A m).1 ∧ (oFewest A m).1 ≤ 2 := by
  unfold oFewest
  (repeat' split) <;> simp
set_option maxHeartbeats 1000000 in
set_option maxRecDepth 100000 in
theorem law_0 {G : GT} {b L : Nat} {xs : Nat → Int32} {k n : Nat} {i : Int} {σ : Sg} (hL : 0 ≤ i ∧ i + 5 ≤ (L : Int) ∧ (L : Int) ≤ 2560) (hi : LI σ) (hk : k ≤ 2000) (hn : n ≤ 20000)
    (K : ∀ σ' : Sg, LI σ' → Rn G mL_law room_1 (EL G b L xs) ZL false SH (k + 1) (n + 6) 1467 [(0, .ref b), (1, Rf G 0), (2, Rf G 46), (3, Rf G 59), (4, I i)] [] σ') : Rn G mL_law room_1 (EL G b L xs) ZL false SH k n 156 [(0, .ref b), (1, Rf G 0), (2, Rf G 46), (3, Rf G 59), (4, I i)] [] σ := by
  refine r_aload_n dL_law_156 rfl rfl ?_
  refine r_aloadb_n dL_law_157 rfl rfl ?_
  refine r_iload dL_law_158 rfl ?_
  refine r_iconst dL_law_160 ?_
  refine r_iadd dL_law_161 ?_
  refine r_sld dL_law_162 (by omega) ?_
  refine r_aloadb_n dL_law_163 rfl rfl ?_
  refine r_iload dL_law_164 rfl ?_
  refine r_iconst dL_law_166 ?_
  refine r_iadd dL_law_167 ?_
  refine r_sld dL_law_168 (by omega) ?_
  refine r_aload_n dL_law_169 rfl rfl ?_
  have hcb := oSize_b (A := absC σ) (r := XX xs (i + 1)) (c := XX xs (i + 2))
  refine r_callW (tL_size G σ (XX xs (i + 1)) (XX xs (i + 2)) hi.1 ⟨XX_bd, XX_bd⟩) dL_law_170 q386 q0 q387 ⟨by decide +kernel, by decide +kernel, pd_L_size⟩ q385 rfl ⟨Nat.le_of_ble_eq_true rfl, Nat.le_of_ble_eq_true rfl⟩ (Nat.le_of_ble_eq_true rfl) ⟨by show k + 1 ≤ 601024; omega, by show n + 6 ≤ 7293034; omega⟩ ?_
  rintro _ s ⟨rfl, hans, hcs, has, hfs⟩
  have hms := im_c (fun a h1 h2 => hfs a h1 (by omega)) hi.2.1
  have ho : oSize (absM s) (XX xs (i + 1)) (XX xs (i + 2)) = (oSize (absC σ) (XX xs (i + 1)) (XX xs (i + 2))) := by rw [hms.2, hi.2.2]
  refine r_istore (lv' := [(0, .ref b), (1, Rf G 0), (2, Rf G 46), (3, Rf G 59), (4, I i), (5, I ((oSize (absC σ) (XX xs (i + 1)) (XX xs (i + 2))).1))]) dL_law_173 (Nat.le_of_ble_eq_true rfl) rfl ?_
  refine r_aload_n dL_law_175 rfl rfl ?_
  refine r_aloadb_n dL_law_176 rfl rfl ?_
  refine r_iload dL_law_177 rfl ?_
  refine r_iconst dL_law_179 ?_
  refine r_iadd dL_law_180 ?_
  refine r_sld dL_law_181 (by omega) ?_
  refine r_aloadb_n dL_law_182 rfl rfl ?_
  refine r_iload dL_law_183 rfl ?_
  refine r_iconst dL_law_185 ?_
  refine r_iadd dL_law_186 ?_
  refine r_sld dL_law_187 (by omega) ?_
  have hM := tX8_size G s (XX xs (i + 1)) (XX xs (i + 2)) hms.1 ⟨XX_bd, XX_bd⟩
  rw [ho] at hM
  refine r_callV hM dL_law_188 svX8_size q667 sh46 (ci := 8) rfl rfl rfl ⟨Nat.le_of_ble_eq_true rfl, Nat.le_of_ble_eq_true rfl⟩ (Nat.le_of_ble_eq_true rfl) ⟨by show k + 1  + 0 ≤ 601024; omega, by show n + 6  + 0 ≤ 7293034; omega⟩ ?_
  rintro _ t ⟨rfl, ht7, hdt⟩
  refine r_istore (lv' := [(0, .ref b), (1, Rf G 0), (2, Rf G 46), (3, Rf G 59), (4, I i), (5, I ((oSize (absC σ) (XX xs (i + 1)) (XX xs (i + 2))).1)), (6, I ((oSize (absC σ) (XX xs (i + 1)) (XX xs (i + 2))).2.1))]) dL_law_191 (Nat.le_of_ble_eq_true rfl) rfl ?_
  refine r_aload_n dL_law_193 rfl rfl ?_
  refine r_callV (tX8_thrown G t) dL_law_194 svX8_thrown q663 sh46 (ci := 8) rfl rfl rfl ⟨Nat.le_of_ble_eq_true rfl, Nat.le_of_ble_eq_true rfl⟩ (Nat.le_of_ble_eq_true rfl) ⟨by show k + 1 + 0 + 0 ≤ 601024; omega, by show n + 6 + 0 + 0 ≤ 7293034; omega⟩ ?_
  rintro _ _ ⟨rfl, rfl⟩
  rw [ht7]
  refine r_iload dL_law_197 rfl ?_
  refine r_icmp_eqE (tgt := 204) dL_law_199 (by decide) ?_
  refine r_iload dL_law_204 rfl ?_
  refine r_if_ne (tgt := 221) dL_law_206 (by decide) (by omega) (fun hne => ?_) (fun hne => ?_)
  · skip
    refine r_goto (tgt := 1467) dL_law_221 (by decide) ?_
    refine r_sub [0, 1, 2, 3, 4] rfl ?_
    exact K t (li_end hcs has hdt)
  · skip
    refine r_aload_n dL_law_209 rfl rfl ?_
    refine r_iconst dL_law_210 ?_
    have h59 : t 59 0 = bm ((oSize (absC σ) (XX xs (i + 1)) (XX xs (i + 2))).2.1) := by rw [hdt.2.2 59 (by decide)]; exact hans (by omega)
    refine r_lald dL_law_211 sh59 (by omega) (hv := h59) ?_
    refine r_iload dL_law_212 rfl ?_
    refine r_i2lb dL_law_214 ?_
    refine r_lcmpE dL_law_215 ?_
    refine r_if_eq (tgt := 221) dL_law_216 (by decide) (by omega) (fun _ => ?_) (fun h => absurd rfl h)
    refine r_goto (tgt := 1467) dL_law_221 (by decide) ?_
    refine r_sub [0, 1, 2, 3, 4] rfl ?_
    exact K t (li_end hcs has hdt)
set_option maxHeartbeats 1000000 in
set_option maxRecDepth 100000 in
theorem law_1 {G : GT} {b L : Nat} {xs : Nat → Int32} {k n : Nat} {i : Int} {σ : Sg} (hL : 0 ≤ i ∧ i + 5 ≤ (L : Int) ∧ (L : Int) ≤ 2560) (hi : LI σ) (hk : k ≤ 2000) (hn : n ≤ 20000)
    (K : ∀ σ' : Sg, LI σ' → Rn G mL_law room_1 (EL G b L xs) ZL false SH (k + 1) (n + 6) 1467 [(0, .ref b), (1, Rf G 0), (2, Rf G 46), (3, Rf G 59), (4, I i)] [] σ') : Rn G mL_law room_1 (EL G b L xs) ZL false SH k n 224 [(0, .ref b), (1, Rf G 0), (2, Rf G 46), (3, Rf G 59), (4, I i)] [] σ := by
  refine r_aload_n dL_law_224 rfl rfl ?_
  refine r_aloadb_n dL_law_225 rfl rfl ?_
  refine r_iload dL_law_226 rfl ?_
  refine r_iconst dL_law_228 ?_
  refine r_iadd dL_law_229 ?_
  refine r_sld dL_law_230 (by omega) ?_
  refine r_aloadb_n dL_law_231 rfl rfl ?_
  refine r_iload dL_law_232 rfl ?_
  refine r_iconst dL_law_234 ?_
  refine r_iadd dL_law_235 ?_
  refine r_sld dL_law_236 (by omega) ?_
  refine r_aloadb_n dL_law_237 rfl rfl ?_
  refine r_iload dL_law_238 rfl ?_
  refine r_iconst dL_law_240 ?_
  refine r_iadd dL_law_241 ?_
  refine r_sld dL_law_242 (by omega) ?_
  refine r_aload_n dL_law_243 rfl rfl ?_
  have hcb := oPut_b (A := absC σ) (r := XX xs (i + 1)) (c := XX xs (i + 2)) (v := XX xs (i + 3))
  refine r_callW (tL_put G σ (XX xs (i + 1)) (XX xs (i + 2)) (XX xs (i + 3)) hi.1 ⟨XX_bd, XX_bd, XX_bd⟩) dL_law_244 q435 q0 q436 ⟨by decide +kernel, by decide +kernel, pd_L_put⟩ q434 rfl ⟨Nat.le_of_ble_eq_true rfl, Nat.le_of_ble_eq_true rfl⟩ (Nat.le_of_ble_eq_true rfl) ⟨by show k + 1 ≤ 601024; omega, by show n + 6 ≤ 7293034; omega⟩ ?_
  rintro _ s ⟨rfl, hans, hcs, has, hfs⟩
  have hms := im_c (fun a h1 h2 => hfs a h1 (by omega)) hi.2.1
  have ho : oPut (absM s) (XX xs (i + 1)) (XX xs (i + 2)) (XX xs (i + 3)) = (oPut (absC σ) (XX xs (i + 1)) (XX xs (i + 2)) (XX xs (i + 3))) := by rw [hms.2, hi.2.2]
  refine r_istore (lv' := [(0, .ref b), (1, Rf G 0), (2, Rf G 46), (3, Rf G 59), (4, I i), (5, I ((oPut (absC σ) (XX xs (i + 1)) (XX xs (i + 2)) (XX xs (i + 3))).1))]) dL_law_247 (Nat.le_of_ble_eq_true rfl) rfl ?_
  refine r_aload_n dL_law_249 rfl rfl ?_
  refine r_aloadb_n dL_law_250 rfl rfl ?_
  refine r_iload dL_law_251 rfl ?_
  refine r_iconst dL_law_253 ?_
  refine r_iadd dL_law_254 ?_
  refine r_sld dL_law_255 (by omega) ?_
  refine r_aloadb_n dL_law_256 rfl rfl ?_
  refine r_iload dL_law_257 rfl ?_
  refine r_iconst dL_law_259 ?_
  refine r_iadd dL_law_260 ?_
  refine r_sld dL_law_261 (by omega) ?_
  refine r_aloadb_n dL_law_262 rfl rfl ?_
  refine r_iload dL_law_263 rfl ?_
  refine r_iconst dL_law_265 ?_
  refine r_iadd dL_law_266 ?_
  refine r_sld dL_law_267 (by omega) ?_
  have hM := tX8_put G s (XX xs (i + 1)) (XX xs (i + 2)) (XX xs (i + 3)) hms.1 ⟨XX_bd, XX_bd, XX_bd⟩
  rw [ho] at hM
  refine r_callV hM dL_law_268 svX8_put q683 sh46 (ci := 8) rfl rfl rfl ⟨Nat.le_of_ble_eq_true rfl, Nat.le_of_ble_eq_true rfl⟩ (Nat.le_of_ble_eq_true rfl) ⟨by show k + 1  + 0 ≤ 601024; omega, by show n + 6  + 0 ≤ 7293034; omega⟩ ?_
  rintro _ t ⟨rfl, ht7, hdt⟩
  refine r_istore (lv' := [(0, .ref b), (1, Rf G 0), (2, Rf G 46), (3, Rf G 59), (4, I i), (5, I ((oPut (absC σ) (XX xs (i + 1)) (XX xs (i + 2)) (XX xs (i + 3))).1)), (6, I ((oPut (absC σ) (XX xs (i + 1)) (XX xs (i + 2)) (XX xs (i + 3))).2.1))]) dL_law_271 (Nat.le_of_ble_eq_true rfl) rfl ?_
  refine r_aload_n dL_law_273 rfl rfl ?_
  refine r_callV (tX8_thrown G t) dL_law_274 svX8_thrown q663 sh46 (ci := 8) rfl rfl rfl ⟨Nat.le_of_ble_eq_true rfl, Nat.le_of_ble_eq_true rfl⟩ (Nat.le_of_ble_eq_true rfl) ⟨by show k + 1 + 0 + 0 ≤ 601024; omega, by show n + 6 + 0 + 0 ≤ 7293034; omega⟩ ?_
  rintro _ _ ⟨rfl, rfl⟩
  rw [ht7]
  refine r_iload dL_law_277 rfl ?_
  refine r_icmp_eqE (tgt := 284) dL_law_279 (by decide) ?_
  refine r_iload dL_law_284 rfl ?_
  refine r_if_ne (tgt := 301) dL_law_286 (by decide) (by omega) (fun hne => ?_) (fun hne => ?_)
  · skip
    refine r_goto (tgt := 1467) dL_law_301 (by decide) ?_
    refine r_sub [0, 1, 2, 3, 4] rfl ?_
    exact K t (li_end hcs has hdt)
  · skip
    refine r_aload_n dL_law_289 rfl rfl ?_
    refine r_iconst dL_law_290 ?_
    have h59 : t 59 0 = bm ((oPut (absC σ) (XX xs (i + 1)) (XX xs (i + 2)) (XX xs (i + 3))).2.1) := by rw [hdt.2.2 59 (by decide)]; exact hans (by omega)
    refine r_lald dL_law_291 sh59 (by omega) (hv := h59) ?_
    refine r_iload dL_law_292 rfl ?_
    refine r_i2lb dL_law_294 ?_
    refine r_lcmpE dL_law_295 ?_
    refine r_if_eq (tgt := 301) dL_law_296 (by decide) (by omega) (fun _ => ?_) (fun h => absurd rfl h)
    refine r_goto (tgt := 1467) dL_law_301 (by decide) ?_
    refine r_sub [0, 1, 2, 3, 4] rfl ?_
    exact K t (li_end hcs has hdt)
set_option maxHeartbeats 1000000 in
set_option maxRecDepth 100000 in
theorem law_2 {G : GT} {b L : Nat} {xs : Nat → Int32} {k n : Nat} {i : Int} {σ : Sg} (hL : 0 ≤ i ∧ i + 5 ≤ (L : Int) ∧ (L : Int) ≤ 2560) (hi : LI σ) (hk : k ≤ 2000) (hn : n ≤ 20000)
    (K : ∀ σ' : Sg, LI σ' → Rn G mL_law room_1 (EL G b L xs) ZL false SH (k + 1) (n + 6) 1467 [(0, .ref b), (1, Rf G 0), (2, Rf G 46), (3, Rf G 59), (4, I i)] [] σ') : Rn G mL_law room_1 (EL G b L xs) ZL false SH k n 304 [(0, .ref b), (1, Rf G 0), (2, Rf G 46), (3, Rf G 59), (4, I i)] [] σ := by
  refine r_aload_n dL_law_304 rfl rfl ?_
  refine r_aloadb_n dL_law_305 rfl rfl ?_
  refine r_iload dL_law_306 rfl ?_
  refine r_iconst dL_law_308 ?_
  refine r_iadd dL_law_309 ?_
  refine r_sld dL_law_310 (by omega) ?_
  refine r_aloadb_n dL_law_311 rfl rfl ?_
  refine r_iload dL_law_312 rfl ?_
  refine r_iconst dL_law_314 ?_
  refine r_iadd dL_law_315 ?_
  refine r_sld dL_law_316 (by omega) ?_
  refine r_aloadb_n dL_law_317 rfl rfl ?_
  refine r_iload dL_law_318 rfl ?_
  refine r_iconst dL_law_320 ?_
  refine r_iadd dL_law_321 ?_
  refine r_sld dL_law_322 (by omega) ?_
  refine r_aloadb_n dL_law_323 rfl rfl ?_
  refine r_iload dL_law_324 rfl ?_
  refine r_iconst dL_law_326 ?_
  refine r_iadd dL_law_327 ?_
  refine r_sld dL_law_328 (by omega) ?_
  refine r_aload_n dL_law_329 rfl rfl ?_
  have hcb := oPoints_b (A := absC σ) (a := XX xs (i + 1)) (b := XX xs (i + 2)) (c := XX xs (i + 3)) (d := XX xs (i + 4))
  refine r_callW (tL_points G σ (XX xs (i + 1)) (XX xs (i + 2)) (XX xs (i + 3)) (XX xs (i + 4)) hi.1 ⟨XX_bd, XX_bd, XX_bd, XX_bd⟩) dL_law_330 q456 q0 q457 ⟨by decide +kernel, by decide +kernel, pd_L_points⟩ q455 rfl ⟨Nat.le_of_ble_eq_true rfl, Nat.le_of_ble_eq_true rfl⟩ (Nat.le_of_ble_eq_true rfl) ⟨by show k + 1 ≤ 601024; omega, by show n + 6 ≤ 7293034; omega⟩ ?_
  rintro _ s ⟨rfl, hans, hcs, has, hfs⟩
  have hms := im_c (fun a h1 h2 => hfs a h1 (by omega)) hi.2.1
  have ho : oPoints (absM s) (XX xs (i + 1)) (XX xs (i + 2)) (XX xs (i + 3)) (XX xs (i + 4)) = (oPoints (absC σ) (XX xs (i + 1)) (XX xs (i + 2)) (XX xs (i + 3)) (XX xs (i + 4))) := by rw [hms.2, hi.2.2]
  refine r_istore (lv' := [(0, .ref b), (1, Rf G 0), (2, Rf G 46), (3, Rf G 59), (4, I i), (5, I ((oPoints (absC σ) (XX xs (i + 1)) (XX xs (i + 2)) (XX xs (i + 3)) (XX xs (i + 4))).1))]) dL_law_333 (Nat.le_of_ble_eq_true rfl) rfl ?_
  refine r_aload_n dL_law_335 rfl rfl ?_
  refine r_aloadb_n dL_law_336 rfl rfl ?_
  refine r_iload dL_law_337 rfl ?_
  refine r_iconst dL_law_339 ?_
  refine r_iadd dL_law_340 ?_
  refine r_sld dL_law_341 (by omega) ?_
  refine r_aloadb_n dL_law_342 rfl rfl ?_
  refine r_iload dL_law_343 rfl ?_
  refine r_iconst dL_law_345 ?_
  refine r_iadd dL_law_346 ?_
  refine r_sld dL_law_347 (by omega) ?_
  refine r_aloadb_n dL_law_348 rfl rfl ?_
  refine r_iload dL_law_349 rfl ?_
  refine r_iconst dL_law_351 ?_
  refine r_iadd dL_law_352 ?_
  refine r_sld dL_law_353 (by omega) ?_
  refine r_aloadb_n dL_law_354 rfl rfl ?_
  refine r_iload dL_law_355 rfl ?_
  refine r_iconst dL_law_357 ?_
  refine r_iadd dL_law_358 ?_
  refine r_sld dL_law_359 (by omega) ?_
  have hM := tX8_points G s (XX xs (i + 1)) (XX xs (i + 2)) (XX xs (i + 3)) (XX xs (i + 4)) hms.1 ⟨XX_bd, XX_bd, XX_bd, XX_bd⟩
  rw [ho] at hM
  refine r_callV hM dL_law_360 svX8_points q699 sh46 (ci := 8) rfl rfl rfl ⟨Nat.le_of_ble_eq_true rfl, Nat.le_of_ble_eq_true rfl⟩ (Nat.le_of_ble_eq_true rfl) ⟨by show k + 1  + 0 ≤ 601024; omega, by show n + 6  + 0 ≤ 7293034; omega⟩ ?_
  rintro _ t ⟨rfl, ht7, hdt⟩
  refine r_istore (lv' := [(0, .ref b), (1, Rf G 0), (2, Rf G 46), (3, Rf G 59), (4, I i), (5, I ((oPoints (absC σ) (XX xs (i + 1)) (XX xs (i + 2)) (XX xs (i + 3)) (XX xs (i + 4))).1)), (6, I ((oPoints (absC σ) (XX xs (i + 1)) (XX xs (i + 2)) (XX xs (i + 3)) (XX xs (i + 4))).2.1))]) dL_law_363 (Nat.le_of_ble_eq_true rfl) rfl ?_
  refine r_aload_n dL_law_365 rfl rfl ?_
  refine r_callV (tX8_thrown G t) dL_law_366 svX8_thrown q663 sh46 (ci := 8) rfl rfl rfl ⟨Nat.le_of_ble_eq_true rfl, Nat.le_of_ble_eq_true rfl⟩ (Nat.le_of_ble_eq_true rfl) ⟨by show k + 1 + 0 + 0 ≤ 601024; omega, by show n + 6 + 0 + 0 ≤ 7293034; omega⟩ ?_
  rintro _ _ ⟨rfl, rfl⟩
  rw [ht7]
  refine r_iload dL_law_369 rfl ?_
  refine r_icmp_eqE (tgt := 376) dL_law_371 (by decide) ?_
  refine r_iload dL_law_376 rfl ?_
  refine r_if_ne (tgt := 393) dL_law_378 (by decide) (by omega) (fun hne => ?_) (fun hne => ?_)
  · skip
    refine r_goto (tgt := 1467) dL_law_393 (by decide) ?_
    refine r_sub [0, 1, 2, 3, 4] rfl ?_
    exact K t (li_end hcs has hdt)
  · skip
    refine r_aload_n dL_law_381 rfl rfl ?_
    refine r_iconst dL_law_382 ?_
    have h59 : t 59 0 = bm ((oPoints (absC σ) (XX xs (i + 1)) (XX xs (i + 2)) (XX xs (i + 3)) (XX xs (i + 4))).2.1) := by rw [hdt.2.2 59 (by decide)]; exact hans (by omega)
    refine r_lald dL_law_383 sh59 (by omega) (hv := h59) ?_
    refine r_iload dL_law_384 rfl ?_
    refine r_i2lb dL_law_386 ?_
    refine r_lcmpE dL_law_387 ?_
    refine r_if_eq (tgt := 393) dL_law_388 (by decide) (by omega) (fun _ => ?_) (fun h => absurd rfl h)
    refine r_goto (tgt := 1467) dL_law_393 (by decide) ?_
    refine r_sub [0, 1, 2, 3, 4] rfl ?_
    exact K t (li_end hcs has hdt)
set_option maxHeartbeats 1000000 in
set_option maxRecDepth 100000 in
theorem law_3 {G : GT} {b L : Nat} {xs : Nat → Int32} {k n : Nat} {i : Int} {σ : Sg} (hL : 0 ≤ i ∧ i + 5 ≤ (L : Int) ∧ (L : Int) ≤ 2560) (hi : LI σ) (hk : k ≤ 2000) (hn : n ≤ 20000)
    (K : ∀ σ' : Sg, LI σ' → Rn G mL_law room_1 (EL G b L xs) ZL false SH (k + 1) (n + 6) 1467 [(0, .ref b), (1, Rf G 0), (2, Rf G 46), (3, Rf G 59), (4, I i)] [] σ') : Rn G mL_law room_1 (EL G b L xs) ZL false SH k n 396 [(0, .ref b), (1, Rf G 0), (2, Rf G 46), (3, Rf G 59), (4, I i)] [] σ := by
  refine r_aload_n dL_law_396 rfl rfl ?_
  refine r_callV (tX7_mend G σ hi.1) dL_law_397 svX7_mend q141 sh0 (ci := 7) rfl rfl rfl ⟨Nat.le_of_ble_eq_true rfl, Nat.le_of_ble_eq_true rfl⟩ (Nat.le_of_ble_eq_true rfl) ⟨by show k + 0 ≤ 601024; omega, by show n + 0 ≤ 7293034; omega⟩ ?_
  rintro _ s ⟨h1, rfl, hcs, has, hfs⟩
  have hms := im_c (fun a h1 h2 => hfs a h1) hi.2.1
  have ho : oMend (absM s) = (oMend (absC σ)) := by rw [hms.2, hi.2.2]
  refine r_aload_n dL_law_400 rfl rfl ?_
  have hM := tX8_mend G s hms.1
  rw [ho] at hM
  refine r_callV hM dL_law_401 svX8_mend q712 sh46 (ci := 8) rfl rfl rfl ⟨Nat.le_of_ble_eq_true rfl, Nat.le_of_ble_eq_true rfl⟩ (Nat.le_of_ble_eq_true rfl) ⟨by show k + 0 + 0 ≤ 601024; omega, by show n + 0 + 0 ≤ 7293034; omega⟩ ?_
  rintro _ t ⟨rfl, ht7, hdt⟩
  refine r_icmp_eqE (tgt := 1467) dL_law_404 (by decide) ?_
  refine r_widen (k2 := k + 1) (n2 := n + 6) (by omega) (by omega) ?_
  exact K t (li_end hcs has hdt)
set_option maxHeartbeats 1000000 in
set_option maxRecDepth 100000 in
theorem law_4 {G : GT} {b L : Nat} {xs : Nat → Int32} {k n : Nat} {i : Int} {σ : Sg} (hL : 0 ≤ i ∧ i + 5 ≤ (L : Int) ∧ (L : Int) ≤ 2560) (hi : LI σ) (hk : k ≤ 2000) (hn : n ≤ 20000)
    (K : ∀ σ' : Sg, LI σ' → Rn G mL_law room_1 (EL G b L xs) ZL false SH (k + 1) (n + 6) 1467 [(0, .ref b), (1, Rf G 0), (2, Rf G 46), (3, Rf G 59), (4, I i)] [] σ') : Rn G mL_law room_1 (EL G b L xs) ZL false SH k n 409 [(0, .ref b), (1, Rf G 0), (2, Rf G 46), (3, Rf G 59), (4, I i)] [] σ := by
  refine r_aload_n dL_law_409 rfl rfl ?_
  refine r_aloadb_n dL_law_410 rfl rfl ?_
  refine r_iload dL_law_411 rfl ?_
  refine r_iconst dL_law_413 ?_
  refine r_iadd dL_law_414 ?_
  refine r_sld dL_law_415 (by omega) ?_
  refine r_aload_n dL_law_416 rfl rfl ?_
  have hcb := oFind_b (A := absC σ) (w := XX xs (i + 1))
  refine r_callW (tL_find G σ (XX xs (i + 1)) hi.1 XX_bd) dL_law_417 q464 q0 q465 ⟨by decide +kernel, by decide +kernel, pd_L_find⟩ q463 rfl ⟨Nat.le_of_ble_eq_true rfl, Nat.le_of_ble_eq_true rfl⟩ (Nat.le_of_ble_eq_true rfl) ⟨by show k + 1 ≤ 601024; omega, by show n + 6 ≤ 7293034; omega⟩ ?_
  rintro _ s ⟨rfl, hans, hcs, has, hfs⟩
  have hms := im_c (fun a h1 h2 => hfs a h1 (by omega)) hi.2.1
  have ho : oFind (absM s) (XX xs (i + 1)) = (oFind (absC σ) (XX xs (i + 1))) := by rw [hms.2, hi.2.2]
  refine r_istore (lv' := [(0, .ref b), (1, Rf G 0), (2, Rf G 46), (3, Rf G 59), (4, I i), (5, I ((oFind (absC σ) (XX xs (i + 1))).1))]) dL_law_420 (Nat.le_of_ble_eq_true rfl) rfl ?_
  refine r_aload_n dL_law_422 rfl rfl ?_
  refine r_aloadb_n dL_law_423 rfl rfl ?_
  refine r_iload dL_law_424 rfl ?_
  refine r_iconst dL_law_426 ?_
  refine r_iadd dL_law_427 ?_
  refine r_sld dL_law_428 (by omega) ?_
  have hM := tX8_find G s (XX xs (i + 1)) hms.1 XX_bd
  rw [ho] at hM
  refine r_callV hM dL_law_429 svX8_find q716 sh46 (ci := 8) rfl rfl rfl ⟨Nat.le_of_ble_eq_true rfl, Nat.le_of_ble_eq_true rfl⟩ (Nat.le_of_ble_eq_true rfl) ⟨by show k + 1  + 0 ≤ 601024; omega, by show n + 6  + 0 ≤ 7293034; omega⟩ ?_
  rintro _ t ⟨rfl, ht7, hdt⟩
  refine r_istore (lv' := [(0, .ref b), (1, Rf G 0), (2, Rf G 46), (3, Rf G 59), (4, I i), (5, I ((oFind (absC σ) (XX xs (i + 1))).1)), (6, I ((oFind (absC σ) (XX xs (i + 1))).2.1))]) dL_law_432 (Nat.le_of_ble_eq_true rfl) rfl ?_
  refine r_aload_n dL_law_434 rfl rfl ?_
  refine r_callV (tX8_thrown G t) dL_law_435 svX8_thrown q663 sh46 (ci := 8) rfl rfl rfl ⟨Nat.le_of_ble_eq_true rfl, Nat.le_of_ble_eq_true rfl⟩ (Nat.le_of_ble_eq_true rfl) ⟨by show k + 1 + 0 + 0 ≤ 601024; omega, by show n + 6 + 0 + 0 ≤ 7293034; omega⟩ ?_
  rintro _ _ ⟨rfl, rfl⟩
  rw [ht7]
  refine r_iload dL_law_438 rfl ?_
  refine r_icmp_eqE (tgt := 445) dL_law_440 (by decide) ?_
  refine r_iload dL_law_445 rfl ?_
  refine r_if_ne (tgt := 462) dL_law_447 (by decide) (by omega) (fun hne => ?_) (fun hne => ?_)
  · skip
    refine r_goto (tgt := 1467) dL_law_462 (by decide) ?_
    refine r_sub [0, 1, 2, 3, 4] rfl ?_
    exact K t (li_end hcs has hdt)
  · skip
    refine r_aload_n dL_law_450 rfl rfl ?_
    refine r_iconst dL_law_451 ?_
    have h59 : t 59 0 = bm ((oFind (absC σ) (XX xs (i + 1))).2.1) := by rw [hdt.2.2 59 (by decide)]; exact hans (by omega)
    refine r_lald dL_law_452 sh59 (by omega) (hv := h59) ?_
    refine r_iload dL_law_453 rfl ?_
    refine r_i2lb dL_law_455 ?_
    refine r_lcmpE dL_law_456 ?_
    refine r_if_eq (tgt := 462) dL_law_457 (by decide) (by omega) (fun _ => ?_) (fun h => absurd rfl h)
    refine r_goto (tgt := 1467) dL_law_462 (by decide) ?_
    refine r_sub [0, 1, 2, 3, 4] rfl ?_
    exact K t (li_end hcs has hdt)
set_option maxHeartbeats 1000000 in
set_option maxRecDepth 100000 in
theorem law_5 {G : GT} {b L : Nat} {xs : Nat → Int32} {k n : Nat} {i : Int} {σ : Sg} (hL : 0 ≤ i ∧ i + 5 ≤ (L : Int) ∧ (L : Int) ≤ 2560) (hi : LI σ) (hk : k ≤ 2000) (hn : n ≤ 20000)
    (K : ∀ σ' : Sg, LI σ' → Rn G mL_law room_1 (EL G b L xs) ZL false SH (k + 1) (n + 6) 1467 [(0, .ref b), (1, Rf G 0), (2, Rf G 46), (3, Rf G 59), (4, I i)] [] σ') : Rn G mL_law room_1 (EL G b L xs) ZL false SH k n 465 [(0, .ref b), (1, Rf G 0), (2, Rf G 46), (3, Rf G 59), (4, I i)] [] σ := by
  refine r_aload_n dL_law_465 rfl rfl ?_
  refine r_aloadb_n dL_law_466 rfl rfl ?_
  refine r_iload dL_law_467 rfl ?_
  refine r_iconst dL_law_469 ?_
  refine r_iadd dL_law_470 ?_
  refine r_sld dL_law_471 (by omega) ?_
  refine r_aload_n dL_law_472 rfl rfl ?_
  have hcb := oWeigh_b (A := absC σ) (v := XX xs (i + 1))
  refine r_callW (tL_weigh G σ (XX xs (i + 1)) hi.1 XX_bd) dL_law_473 q486 q0 q487 ⟨by decide +kernel, by decide +kernel, pd_L_weigh⟩ q485 rfl ⟨Nat.le_of_ble_eq_true rfl, Nat.le_of_ble_eq_true rfl⟩ (Nat.le_of_ble_eq_true rfl) ⟨by show k + 1 ≤ 601024; omega, by show n + 6 ≤ 7293034; omega⟩ ?_
  rintro _ s ⟨rfl, hans, hcs, has, hfs⟩
  have hms := im_c (fun a h1 h2 => hfs a h1 (by omega)) hi.2.1
  have ho : oWeigh (absM s) (XX xs (i + 1)) = (oWeigh (absC σ) (XX xs (i + 1))) := by rw [hms.2, hi.2.2]
  refine r_istore (lv' := [(0, .ref b), (1, Rf G 0), (2, Rf G 46), (3, Rf G 59), (4, I i), (5, I ((oWeigh (absC σ) (XX xs (i + 1))).1))]) dL_law_476 (Nat.le_of_ble_eq_true rfl) rfl ?_
  refine r_aload_n dL_law_478 rfl rfl ?_
  refine r_aloadb_n dL_law_479 rfl rfl ?_
  refine r_iload dL_law_480 rfl ?_
  refine r_iconst dL_law_482 ?_
  refine r_iadd dL_law_483 ?_
  refine r_sld dL_law_484 (by omega) ?_
  have hM := tX8_weigh G s (XX xs (i + 1)) hms.1 XX_bd
  rw [ho] at hM
  refine r_callV hM dL_law_485 svX8_weigh q756 sh46 (ci := 8) rfl rfl rfl ⟨Nat.le_of_ble_eq_true rfl, Nat.le_of_ble_eq_true rfl⟩ (Nat.le_of_ble_eq_true rfl) ⟨by show k + 1  + 0 ≤ 601024; omega, by show n + 6  + 0 ≤ 7293034; omega⟩ ?_
  rintro _ t ⟨rfl, ht7, hdt⟩
  refine r_istore (lv' := [(0, .ref b), (1, Rf G 0), (2, Rf G 46), (3, Rf G 59), (4, I i), (5, I ((oWeigh (absC σ) (XX xs (i + 1))).1)), (6, I ((oWeigh (absC σ) (XX xs (i + 1))).2.1))]) dL_law_488 (Nat.le_of_ble_eq_true rfl) rfl ?_
  refine r_aload_n dL_law_490 rfl rfl ?_
  refine r_callV (tX8_thrown G t) dL_law_491 svX8_thrown q663 sh46 (ci := 8) rfl rfl rfl ⟨Nat.le_of_ble_eq_true rfl, Nat.le_of_ble_eq_true rfl⟩ (Nat.le_of_ble_eq_true rfl) ⟨by show k + 1 + 0 + 0 ≤ 601024; omega, by show n + 6 + 0 + 0 ≤ 7293034; omega⟩ ?_
  rintro _ _ ⟨rfl, rfl⟩
  rw [ht7]
  refine r_iload dL_law_494 rfl ?_
  refine r_icmp_eqE (tgt := 501) dL_law_496 (by decide) ?_
  refine r_iload dL_law_501 rfl ?_
  refine r_if_ne (tgt := 518) dL_law_503 (by decide) (by omega) (fun hne => ?_) (fun hne => ?_)
  · skip
    refine r_goto (tgt := 1467) dL_law_518 (by decide) ?_
    refine r_sub [0, 1, 2, 3, 4] rfl ?_
    exact K t (li_end hcs has hdt)
  · skip
    refine r_aload_n dL_law_506 rfl rfl ?_
    refine r_iconst dL_law_507 ?_
    have h59 : t 59 0 = bm ((oWeigh (absC σ) (XX xs (i + 1))).2.1) := by rw [hdt.2.2 59 (by decide)]; exact hans (by omega)
    refine r_lald dL_law_508 sh59 (by omega) (hv := h59) ?_
    refine r_iload dL_law_509 rfl ?_
    refine r_i2lb dL_law_511 ?_
    refine r_lcmpE dL_law_512 ?_
    refine r_if_eq (tgt := 518) dL_law_513 (by decide) (by omega) (fun _ => ?_) (fun h => absurd rfl h)
    refine r_goto (tgt := 1467) dL_law_518 (by decide) ?_
    refine r_sub [0, 1, 2, 3, 4] rfl ?_
    exact K t (li_end hcs has hdt)
set_option maxHeartbeats 1000000 in
set_option maxRecDepth 100000 in
theorem law_6 {G : GT} {b L : Nat} {xs : Nat → Int32} {k n : Nat} {i : Int} {σ : Sg} (hL : 0 ≤ i ∧ i + 5 ≤ (L : Int) ∧ (L : Int) ≤ 2560) (hi : LI σ) (hk : k ≤ 2000) (hn : n ≤ 20000)
    (K : ∀ σ' : Sg, LI σ' → Rn G mL_law room_1 (EL G b L xs) ZL false SH (k + 1) (n + 6) 1467 [(0, .ref b), (1, Rf G 0), (2, Rf G 46), (3, Rf G 59), (4, I i)] [] σ') : Rn G mL_law room_1 (EL G b L xs) ZL false SH k n 521 [(0, .ref b), (1, Rf G 0), (2, Rf G 46), (3, Rf G 59), (4, I i)] [] σ := by
  refine r_aload_n dL_law_521 rfl rfl ?_
  refine r_aload_n dL_law_522 rfl rfl ?_
  have hcb := oUnweigh_b (A := absC σ)
  refine r_callW (tL_unweigh G σ hi.1) dL_law_523 q497 q0 q498 ⟨by decide +kernel, by decide +kernel, pd_L_unweigh⟩ q496 rfl ⟨Nat.le_of_ble_eq_true rfl, Nat.le_of_ble_eq_true rfl⟩ (Nat.le_of_ble_eq_true rfl) ⟨by show k + 1 ≤ 601024; omega, by show n + 6 ≤ 7293034; omega⟩ ?_
  rintro _ s ⟨rfl, hans, hcs, has, hfs⟩
  have hms := im_c (fun a h1 h2 => hfs a h1 (by omega)) hi.2.1
  have ho : oUnweigh (absM s) = (oUnweigh (absC σ)) := by rw [hms.2, hi.2.2]
  refine r_istore (lv' := [(0, .ref b), (1, Rf G 0), (2, Rf G 46), (3, Rf G 59), (4, I i), (5, I ((oUnweigh (absC σ)).1))]) dL_law_526 (Nat.le_of_ble_eq_true rfl) rfl ?_
  refine r_aload_n dL_law_528 rfl rfl ?_
  have hM := tX8_unweigh G s hms.1
  rw [ho] at hM
  refine r_callV hM dL_law_529 svX8_unweigh q760 sh46 (ci := 8) rfl rfl rfl ⟨Nat.le_of_ble_eq_true rfl, Nat.le_of_ble_eq_true rfl⟩ (Nat.le_of_ble_eq_true rfl) ⟨by show k + 1  + 0 ≤ 601024; omega, by show n + 6  + 0 ≤ 7293034; omega⟩ ?_
  rintro _ t ⟨rfl, ht7, hdt⟩
  refine r_istore (lv' := [(0, .ref b), (1, Rf G 0), (2, Rf G 46), (3, Rf G 59), (4, I i), (5, I ((oUnweigh (absC σ)).1)), (6, I ((oUnweigh (absC σ)).2.1))]) dL_law_532 (Nat.le_of_ble_eq_true rfl) rfl ?_
  refine r_aload_n dL_law_534 rfl rfl ?_
  refine r_callV (tX8_thrown G t) dL_law_535 svX8_thrown q663 sh46 (ci := 8) rfl rfl rfl ⟨Nat.le_of_ble_eq_true rfl, Nat.le_of_ble_eq_true rfl⟩ (Nat.le_of_ble_eq_true rfl) ⟨by show k + 1 + 0 + 0 ≤ 601024; omega, by show n + 6 + 0 + 0 ≤ 7293034; omega⟩ ?_
  rintro _ _ ⟨rfl, rfl⟩
  rw [ht7]
  refine r_iload dL_law_538 rfl ?_
  refine r_icmp_eqE (tgt := 545) dL_law_540 (by decide) ?_
  refine r_iload dL_law_545 rfl ?_
  refine r_if_ne (tgt := 562) dL_law_547 (by decide) (by omega) (fun hne => ?_) (fun hne => ?_)
  · skip
    refine r_goto (tgt := 1467) dL_law_562 (by decide) ?_
    refine r_sub [0, 1, 2, 3, 4] rfl ?_
    exact K t (li_end hcs has hdt)
  · skip
    refine r_aload_n dL_law_550 rfl rfl ?_
    refine r_iconst dL_law_551 ?_
    have h59 : t 59 0 = bm ((oUnweigh (absC σ)).2.1) := by rw [hdt.2.2 59 (by decide)]; exact hans (by omega)
    refine r_lald dL_law_552 sh59 (by omega) (hv := h59) ?_
    refine r_iload dL_law_553 rfl ?_
    refine r_i2lb dL_law_555 ?_
    refine r_lcmpE dL_law_556 ?_
    refine r_if_eq (tgt := 562) dL_law_557 (by decide) (by omega) (fun _ => ?_) (fun h => absurd rfl h)
    refine r_goto (tgt := 1467) dL_law_562 (by decide) ?_
    refine r_sub [0, 1, 2, 3, 4] rfl ?_
    exact K t (li_end hcs has hdt)
set_option maxHeartbeats 1000000 in
set_option maxRecDepth 100000 in
theorem law_7 {G : GT} {b L : Nat} {xs : Nat → Int32} {k n : Nat} {i : Int} {σ : Sg} (hL : 0 ≤ i ∧ i + 5 ≤ (L : Int) ∧ (L : Int) ≤ 2560) (hi : LI σ) (hk : k ≤ 2000) (hn : n ≤ 20000)
    (K : ∀ σ' : Sg, LI σ' → Rn G mL_law room_1 (EL G b L xs) ZL false SH (k + 1) (n + 6) 1467 [(0, .ref b), (1, Rf G 0), (2, Rf G 46), (3, Rf G 59), (4, I i)] [] σ') : Rn G mL_law room_1 (EL G b L xs) ZL false SH k n 565 [(0, .ref b), (1, Rf G 0), (2, Rf G 46), (3, Rf G 59), (4, I i)] [] σ := by
  refine r_aload_n dL_law_565 rfl rfl ?_
  refine r_aloadb_n dL_law_566 rfl rfl ?_
  refine r_iload dL_law_567 rfl ?_
  refine r_iconst dL_law_569 ?_
  refine r_iadd dL_law_570 ?_
  refine r_sld dL_law_571 (by omega) ?_
  refine r_aload_n dL_law_572 rfl rfl ?_
  have hcb := oAppend_b (A := absC σ) (c := XX xs (i + 1))
  refine r_callW (tL_append G σ (XX xs (i + 1)) hi.1 XX_bd) dL_law_573 q504 q0 q505 ⟨by decide +kernel, by decide +kernel, pd_L_append⟩ q503 rfl ⟨Nat.le_of_ble_eq_true rfl, Nat.le_of_ble_eq_true rfl⟩ (Nat.le_of_ble_eq_true rfl) ⟨by show k + 1 ≤ 601024; omega, by show n + 6 ≤ 7293034; omega⟩ ?_
  rintro _ s ⟨rfl, hans, hcs, has, hfs⟩
  have hms := im_c (fun a h1 h2 => hfs a h1 (by omega)) hi.2.1
  have ho : oAppend (absM s) (XX xs (i + 1)) = (oAppend (absC σ) (XX xs (i + 1))) := by rw [hms.2, hi.2.2]
  refine r_istore (lv' := [(0, .ref b), (1, Rf G 0), (2, Rf G 46), (3, Rf G 59), (4, I i), (5, I ((oAppend (absC σ) (XX xs (i + 1))).1))]) dL_law_576 (Nat.le_of_ble_eq_true rfl) rfl ?_
  refine r_aload_n dL_law_578 rfl rfl ?_
  refine r_aloadb_n dL_law_579 rfl rfl ?_
  refine r_iload dL_law_580 rfl ?_
  refine r_iconst dL_law_582 ?_
  refine r_iadd dL_law_583 ?_
  refine r_sld dL_law_584 (by omega) ?_
  have hM := tX8_append G s (XX xs (i + 1)) hms.1 XX_bd
  rw [ho] at hM
  refine r_callV hM dL_law_585 svX8_append q764 sh46 (ci := 8) rfl rfl rfl ⟨Nat.le_of_ble_eq_true rfl, Nat.le_of_ble_eq_true rfl⟩ (Nat.le_of_ble_eq_true rfl) ⟨by show k + 1  + 0 ≤ 601024; omega, by show n + 6  + 0 ≤ 7293034; omega⟩ ?_
  rintro _ t ⟨rfl, ht7, hdt⟩
  refine r_istore (lv' := [(0, .ref b), (1, Rf G 0), (2, Rf G 46), (3, Rf G 59), (4, I i), (5, I ((oAppend (absC σ) (XX xs (i + 1))).1)), (6, I ((oAppend (absC σ) (XX xs (i + 1))).2.1))]) dL_law_588 (Nat.le_of_ble_eq_true rfl) rfl ?_
  refine r_aload_n dL_law_590 rfl rfl ?_
  refine r_callV (tX8_thrown G t) dL_law_591 svX8_thrown q663 sh46 (ci := 8) rfl rfl rfl ⟨Nat.le_of_ble_eq_true rfl, Nat.le_of_ble_eq_true rfl⟩ (Nat.le_of_ble_eq_true rfl) ⟨by show k + 1 + 0 + 0 ≤ 601024; omega, by show n + 6 + 0 + 0 ≤ 7293034; omega⟩ ?_
  rintro _ _ ⟨rfl, rfl⟩
  rw [ht7]
  refine r_iload dL_law_594 rfl ?_
  refine r_icmp_eqE (tgt := 601) dL_law_596 (by decide) ?_
  refine r_iload dL_law_601 rfl ?_
  refine r_if_ne (tgt := 618) dL_law_603 (by decide) (by omega) (fun hne => ?_) (fun hne => ?_)
  · skip
    refine r_goto (tgt := 1467) dL_law_618 (by decide) ?_
    refine r_sub [0, 1, 2, 3, 4] rfl ?_
    exact K t (li_end hcs has hdt)
  · skip
    refine r_aload_n dL_law_606 rfl rfl ?_
    refine r_iconst dL_law_607 ?_
    have h59 : t 59 0 = bm ((oAppend (absC σ) (XX xs (i + 1))).2.1) := by rw [hdt.2.2 59 (by decide)]; exact hans (by omega)
    refine r_lald dL_law_608 sh59 (by omega) (hv := h59) ?_
    refine r_iload dL_law_609 rfl ?_
    refine r_i2lb dL_law_611 ?_
    refine r_lcmpE dL_law_612 ?_
    refine r_if_eq (tgt := 618) dL_law_613 (by decide) (by omega) (fun _ => ?_) (fun h => absurd rfl h)
    refine r_goto (tgt := 1467) dL_law_618 (by decide) ?_
    refine r_sub [0, 1, 2, 3, 4] rfl ?_
    exact K t (li_end hcs has hdt)
set_option maxHeartbeats 1000000 in
set_option maxRecDepth 100000 in
theorem law_8 {G : GT} {b L : Nat} {xs : Nat → Int32} {k n : Nat} {i : Int} {σ : Sg} (hL : 0 ≤ i ∧ i + 5 ≤ (L : Int) ∧ (L : Int) ≤ 2560) (hi : LI σ) (hk : k ≤ 2000) (hn : n ≤ 20000)
    (K : ∀ σ' : Sg, LI σ' → Rn G mL_law room_1 (EL G b L xs) ZL false SH (k + 1) (n + 6) 1467 [(0, .ref b), (1, Rf G 0), (2, Rf G 46), (3, Rf G 59), (4, I i)] [] σ') : Rn G mL_law room_1 (EL G b L xs) ZL false SH k n 621 [(0, .ref b), (1, Rf G 0), (2, Rf G 46), (3, Rf G 59), (4, I i)] [] σ := by
  refine r_aload_n dL_law_621 rfl rfl ?_
  refine r_callV (tX7_clearBuffer G σ hi.1) dL_law_622 svX7_clearBuffer q178 sh0 (ci := 7) rfl rfl rfl ⟨Nat.le_of_ble_eq_true rfl, Nat.le_of_ble_eq_true rfl⟩ (Nat.le_of_ble_eq_true rfl) ⟨by show k + 0 ≤ 601024; omega, by show n + 0 ≤ 7293034; omega⟩ ?_
  rintro _ s ⟨h1, rfl, hcs, has, hfs⟩
  have hms := im_c (fun a h1 h2 => hfs a h1) hi.2.1
  have ho : oClear (absM s) = (oClear (absC σ)) := by rw [hms.2, hi.2.2]
  refine r_aload_n dL_law_625 rfl rfl ?_
  have hM := tX8_clearBuffer G s hms.1
  rw [ho] at hM
  refine r_callV hM dL_law_626 svX8_clearBuffer q768 sh46 (ci := 8) rfl rfl rfl ⟨Nat.le_of_ble_eq_true rfl, Nat.le_of_ble_eq_true rfl⟩ (Nat.le_of_ble_eq_true rfl) ⟨by show k + 0 + 0 ≤ 601024; omega, by show n + 0 + 0 ≤ 7293034; omega⟩ ?_
  rintro _ t ⟨rfl, ht7, hdt⟩
  refine r_icmp_eqE (tgt := 1467) dL_law_629 (by decide) ?_
  refine r_widen (k2 := k + 1) (n2 := n + 6) (by omega) (by omega) ?_
  exact K t (li_end hcs has hdt)
set_option maxHeartbeats 1000000 in
set_option maxRecDepth 100000 in
theorem law_9 {G : GT} {b L : Nat} {xs : Nat → Int32} {k n : Nat} {i : Int} {σ : Sg} (hL : 0 ≤ i ∧ i + 5 ≤ (L : Int) ∧ (L : Int) ≤ 2560) (hi : LI σ) (hk : k ≤ 2000) (hn : n ≤ 20000)
    (K : ∀ σ' : Sg, LI σ' → Rn G mL_law room_1 (EL G b L xs) ZL false SH (k + 1) (n + 6) 1467 [(0, .ref b), (1, Rf G 0), (2, Rf G 46), (3, Rf G 59), (4, I i)] [] σ') : Rn G mL_law room_1 (EL G b L xs) ZL false SH k n 634 [(0, .ref b), (1, Rf G 0), (2, Rf G 46), (3, Rf G 59), (4, I i)] [] σ := by
  refine r_aload_n dL_law_634 rfl rfl ?_
  refine r_callV (tX7_firstError G σ hi.1) dL_law_635 svX7_firstError q186 sh0 (ci := 7) rfl rfl rfl ⟨Nat.le_of_ble_eq_true rfl, Nat.le_of_ble_eq_true rfl⟩ (Nat.le_of_ble_eq_true rfl) ⟨by show k + 0 ≤ 601024; omega, by show n + 0 ≤ 7293034; omega⟩ ?_
  rintro _ s ⟨h1, rfl, hcs, has, hfs⟩
  have hms := im_c (fun a h1 h2 => hfs a h1) hi.2.1
  have ho : oFirst (absM s) = (oFirst (absC σ)) := by rw [hms.2, hi.2.2]
  refine r_aload_n dL_law_638 rfl rfl ?_
  have hM := tX8_firstError G s hms.1
  rw [ho] at hM
  refine r_callV hM dL_law_639 svX8_firstError q772 sh46 (ci := 8) rfl rfl rfl ⟨Nat.le_of_ble_eq_true rfl, Nat.le_of_ble_eq_true rfl⟩ (Nat.le_of_ble_eq_true rfl) ⟨by show k + 0 + 0 ≤ 601024; omega, by show n + 0 + 0 ≤ 7293034; omega⟩ ?_
  rintro _ t ⟨rfl, ht7, hdt⟩
  refine r_icmp_eqE (tgt := 1467) dL_law_642 (by decide) ?_
  refine r_widen (k2 := k + 1) (n2 := n + 6) (by omega) (by omega) ?_
  exact K t (li_end hcs has hdt)
set_option maxHeartbeats 1000000 in
set_option maxRecDepth 100000 in
theorem law_10 {G : GT} {b L : Nat} {xs : Nat → Int32} {k n : Nat} {i : Int} {σ : Sg} (hL : 0 ≤ i ∧ i + 5 ≤ (L : Int) ∧ (L : Int) ≤ 2560) (hi : LI σ) (hk : k ≤ 2000) (hn : n ≤ 20000)
    (K : ∀ σ' : Sg, LI σ' → Rn G mL_law room_1 (EL G b L xs) ZL false SH (k + 1) (n + 6) 1467 [(0, .ref b), (1, Rf G 0), (2, Rf G 46), (3, Rf G 59), (4, I i)] [] σ') : Rn G mL_law room_1 (EL G b L xs) ZL false SH k n 647 [(0, .ref b), (1, Rf G 0), (2, Rf G 46), (3, Rf G 59), (4, I i)] [] σ := by
  refine r_aload_n dL_law_647 rfl rfl ?_
  refine r_aload_n dL_law_648 rfl rfl ?_
  have hcb := oLoad_b (A := absC σ)
  refine r_callW (tL_load G σ hi.1) dL_law_649 q515 q0 q516 ⟨by decide +kernel, by decide +kernel, pd_L_load⟩ q514 rfl ⟨Nat.le_of_ble_eq_true rfl, Nat.le_of_ble_eq_true rfl⟩ (Nat.le_of_ble_eq_true rfl) ⟨by show k + 1 ≤ 601024; omega, by show n + 6 ≤ 7293034; omega⟩ ?_
  rintro _ s ⟨rfl, hans, hcs, has, hfs⟩
  have hms := im_c (fun a h1 h2 => hfs a h1 (by omega)) hi.2.1
  have ho : oLoad (absM s) = (oLoad (absC σ)) := by rw [hms.2, hi.2.2]
  refine r_istore (lv' := [(0, .ref b), (1, Rf G 0), (2, Rf G 46), (3, Rf G 59), (4, I i), (5, I ((oLoad (absC σ)).1))]) dL_law_652 (Nat.le_of_ble_eq_true rfl) rfl ?_
  refine r_aload_n dL_law_654 rfl rfl ?_
  have hM := tX8_load G s hms.1
  rw [ho] at hM
  refine r_callV hM dL_law_655 svX8_load q791 sh46 (ci := 8) rfl rfl rfl ⟨Nat.le_of_ble_eq_true rfl, Nat.le_of_ble_eq_true rfl⟩ (Nat.le_of_ble_eq_true rfl) ⟨by show k + 1  + 0 ≤ 601024; omega, by show n + 6  + 0 ≤ 7293034; omega⟩ ?_
  rintro _ t ⟨rfl, ht7, hdt⟩
  refine r_istore (lv' := [(0, .ref b), (1, Rf G 0), (2, Rf G 46), (3, Rf G 59), (4, I i), (5, I ((oLoad (absC σ)).1)), (6, I ((oLoad (absC σ)).2.1))]) dL_law_658 (Nat.le_of_ble_eq_true rfl) rfl ?_
  refine r_aload_n dL_law_660 rfl rfl ?_
  refine r_callV (tX8_thrown G t) dL_law_661 svX8_thrown q663 sh46 (ci := 8) rfl rfl rfl ⟨Nat.le_of_ble_eq_true rfl, Nat.le_of_ble_eq_true rfl⟩ (Nat.le_of_ble_eq_true rfl) ⟨by show k + 1 + 0 + 0 ≤ 601024; omega, by show n + 6 + 0 + 0 ≤ 7293034; omega⟩ ?_
  rintro _ _ ⟨rfl, rfl⟩
  rw [ht7]
  refine r_iload dL_law_664 rfl ?_
  refine r_icmp_eqE (tgt := 671) dL_law_666 (by decide) ?_
  refine r_iload dL_law_671 rfl ?_
  refine r_if_ne (tgt := 688) dL_law_673 (by decide) (by omega) (fun hne => ?_) (fun hne => ?_)
  · skip
    refine r_goto (tgt := 1467) dL_law_688 (by decide) ?_
    refine r_sub [0, 1, 2, 3, 4] rfl ?_
    exact K t (li_end hcs has hdt)
  · skip
    refine r_aload_n dL_law_676 rfl rfl ?_
    refine r_iconst dL_law_677 ?_
    have h59 : t 59 0 = bm ((oLoad (absC σ)).2.1) := by rw [hdt.2.2 59 (by decide)]; exact hans (by omega)
    refine r_lald dL_law_678 sh59 (by omega) (hv := h59) ?_
    refine r_iload dL_law_679 rfl ?_
    refine r_i2lb dL_law_681 ?_
    refine r_lcmpE dL_law_682 ?_
    refine r_if_eq (tgt := 688) dL_law_683 (by decide) (by omega) (fun _ => ?_) (fun h => absurd rfl h)
    refine r_goto (tgt := 1467) dL_law_688 (by decide) ?_
    refine r_sub [0, 1, 2, 3, 4] rfl ?_
    exact K t (li_end hcs has hdt)
set_option maxHeartbeats 1000000 in
set_option maxRecDepth 100000 in
theorem law_11 {G : GT} {b L : Nat} {xs : Nat → Int32} {k n : Nat} {i : Int} {σ : Sg} (hL : 0 ≤ i ∧ i + 5 ≤ (L : Int) ∧ (L : Int) ≤ 2560) (hi : LI σ) (hk : k ≤ 2000) (hn : n ≤ 20000)
    (K : ∀ σ' : Sg, LI σ' → Rn G mL_law room_1 (EL G b L xs) ZL false SH (k + 1) (n + 6) 1467 [(0, .ref b), (1, Rf G 0), (2, Rf G 46), (3, Rf G 59), (4, I i)] [] σ') : Rn G mL_law room_1 (EL G b L xs) ZL false SH k n 691 [(0, .ref b), (1, Rf G 0), (2, Rf G 46), (3, Rf G 59), (4, I i)] [] σ := by
  refine r_aload_n dL_law_691 rfl rfl ?_
  refine r_aloadb_n dL_law_692 rfl rfl ?_
  refine r_iload dL_law_693 rfl ?_
  refine r_iconst dL_law_695 ?_
  refine r_iadd dL_law_696 ?_
  refine r_sld dL_law_697 (by omega) ?_
  refine r_aload_n dL_law_698 rfl rfl ?_
  have hcb := oKeep_b (A := absC σ) (k := XX xs (i + 1))
  refine r_callW (tL_keep G σ (XX xs (i + 1)) hi.1 XX_bd) dL_law_699 q539 q0 q540 ⟨by decide +kernel, by decide +kernel, pd_L_keep⟩ q538 rfl ⟨Nat.le_of_ble_eq_true rfl, Nat.le_of_ble_eq_true rfl⟩ (Nat.le_of_ble_eq_true rfl) ⟨by show k + 1 ≤ 601024; omega, by show n + 6 ≤ 7293034; omega⟩ ?_
  rintro _ s ⟨rfl, hans, hcs, has, hfs⟩
  have hms := im_c (fun a h1 h2 => hfs a h1 (by omega)) hi.2.1
  have ho : oKeep (absM s) (XX xs (i + 1)) = (oKeep (absC σ) (XX xs (i + 1))) := by rw [hms.2, hi.2.2]
  refine r_istore (lv' := [(0, .ref b), (1, Rf G 0), (2, Rf G 46), (3, Rf G 59), (4, I i), (5, I ((oKeep (absC σ) (XX xs (i + 1))).1))]) dL_law_702 (Nat.le_of_ble_eq_true rfl) rfl ?_
  refine r_aload_n dL_law_704 rfl rfl ?_
  refine r_aloadb_n dL_law_705 rfl rfl ?_
  refine r_iload dL_law_706 rfl ?_
  refine r_iconst dL_law_708 ?_
  refine r_iadd dL_law_709 ?_
  refine r_sld dL_law_710 (by omega) ?_
  have hM := tX8_keep G s (XX xs (i + 1)) hms.1 XX_bd
  rw [ho] at hM
  refine r_callV hM dL_law_711 svX8_keep q795 sh46 (ci := 8) rfl rfl rfl ⟨Nat.le_of_ble_eq_true rfl, Nat.le_of_ble_eq_true rfl⟩ (Nat.le_of_ble_eq_true rfl) ⟨by show k + 1  + 0 ≤ 601024; omega, by show n + 6  + 0 ≤ 7293034; omega⟩ ?_
  rintro _ t ⟨rfl, ht7, hdt⟩
  refine r_istore (lv' := [(0, .ref b), (1, Rf G 0), (2, Rf G 46), (3, Rf G 59), (4, I i), (5, I ((oKeep (absC σ) (XX xs (i + 1))).1)), (6, I ((oKeep (absC σ) (XX xs (i + 1))).2.1))]) dL_law_714 (Nat.le_of_ble_eq_true rfl) rfl ?_
  refine r_aload_n dL_law_716 rfl rfl ?_
  refine r_callV (tX8_thrown G t) dL_law_717 svX8_thrown q663 sh46 (ci := 8) rfl rfl rfl ⟨Nat.le_of_ble_eq_true rfl, Nat.le_of_ble_eq_true rfl⟩ (Nat.le_of_ble_eq_true rfl) ⟨by show k + 1 + 0 + 0 ≤ 601024; omega, by show n + 6 + 0 + 0 ≤ 7293034; omega⟩ ?_
  rintro _ _ ⟨rfl, rfl⟩
  rw [ht7]
  refine r_iload dL_law_720 rfl ?_
  refine r_icmp_eqE (tgt := 727) dL_law_722 (by decide) ?_
  refine r_iload dL_law_727 rfl ?_
  refine r_if_ne (tgt := 744) dL_law_729 (by decide) (by omega) (fun hne => ?_) (fun hne => ?_)
  · skip
    refine r_goto (tgt := 1467) dL_law_744 (by decide) ?_
    refine r_sub [0, 1, 2, 3, 4] rfl ?_
    exact K t (li_end hcs has hdt)
  · skip
    refine r_aload_n dL_law_732 rfl rfl ?_
    refine r_iconst dL_law_733 ?_
    have h59 : t 59 0 = bm ((oKeep (absC σ) (XX xs (i + 1))).2.1) := by rw [hdt.2.2 59 (by decide)]; exact hans (by omega)
    refine r_lald dL_law_734 sh59 (by omega) (hv := h59) ?_
    refine r_iload dL_law_735 rfl ?_
    refine r_i2lb dL_law_737 ?_
    refine r_lcmpE dL_law_738 ?_
    refine r_if_eq (tgt := 744) dL_law_739 (by decide) (by omega) (fun _ => ?_) (fun h => absurd rfl h)
    refine r_goto (tgt := 1467) dL_law_744 (by decide) ?_
    refine r_sub [0, 1, 2, 3, 4] rfl ?_
    exact K t (li_end hcs has hdt)
set_option maxHeartbeats 1000000 in
set_option maxRecDepth 100000 in
theorem law_12 {G : GT} {b L : Nat} {xs : Nat → Int32} {k n : Nat} {i : Int} {σ : Sg} (hL : 0 ≤ i ∧ i + 5 ≤ (L : Int) ∧ (L : Int) ≤ 2560) (hi : LI σ) (hk : k ≤ 2000) (hn : n ≤ 20000)
    (K : ∀ σ' : Sg, LI σ' → Rn G mL_law room_1 (EL G b L xs) ZL false SH (k + 1) (n + 6) 1467 [(0, .ref b), (1, Rf G 0), (2, Rf G 46), (3, Rf G 59), (4, I i)] [] σ') : Rn G mL_law room_1 (EL G b L xs) ZL false SH k n 747 [(0, .ref b), (1, Rf G 0), (2, Rf G 46), (3, Rf G 59), (4, I i)] [] σ := by
  refine r_aload_n dL_law_747 rfl rfl ?_
  refine r_aloadb_n dL_law_748 rfl rfl ?_
  refine r_iload dL_law_749 rfl ?_
  refine r_iconst dL_law_751 ?_
  refine r_iadd dL_law_752 ?_
  refine r_sld dL_law_753 (by omega) ?_
  refine r_aload_n dL_law_754 rfl rfl ?_
  have hcb := oBack_b (A := absC σ) (k := XX xs (i + 1))
  refine r_callW (tL_goBack G σ (XX xs (i + 1)) hi.1 XX_bd) dL_law_755 q554 q0 q555 ⟨by decide +kernel, by decide +kernel, pd_L_goBack⟩ q553 rfl ⟨Nat.le_of_ble_eq_true rfl, Nat.le_of_ble_eq_true rfl⟩ (Nat.le_of_ble_eq_true rfl) ⟨by show k + 1 ≤ 601024; omega, by show n + 6 ≤ 7293034; omega⟩ ?_
  rintro _ s ⟨rfl, hans, hcs, has, hfs⟩
  have hms := im_c (fun a h1 h2 => hfs a h1 (by omega)) hi.2.1
  have ho : oBack (absM s) (XX xs (i + 1)) = (oBack (absC σ) (XX xs (i + 1))) := by rw [hms.2, hi.2.2]
  refine r_istore (lv' := [(0, .ref b), (1, Rf G 0), (2, Rf G 46), (3, Rf G 59), (4, I i), (5, I ((oBack (absC σ) (XX xs (i + 1))).1))]) dL_law_758 (Nat.le_of_ble_eq_true rfl) rfl ?_
  refine r_aload_n dL_law_760 rfl rfl ?_
  refine r_aloadb_n dL_law_761 rfl rfl ?_
  refine r_iload dL_law_762 rfl ?_
  refine r_iconst dL_law_764 ?_
  refine r_iadd dL_law_765 ?_
  refine r_sld dL_law_766 (by omega) ?_
  have hM := tX8_goBack G s (XX xs (i + 1)) hms.1 XX_bd
  rw [ho] at hM
  refine r_callV hM dL_law_767 svX8_goBack q799 sh46 (ci := 8) rfl rfl rfl ⟨Nat.le_of_ble_eq_true rfl, Nat.le_of_ble_eq_true rfl⟩ (Nat.le_of_ble_eq_true rfl) ⟨by show k + 1  + 0 ≤ 601024; omega, by show n + 6  + 0 ≤ 7293034; omega⟩ ?_
  rintro _ t ⟨rfl, ht7, hdt⟩
  refine r_istore (lv' := [(0, .ref b), (1, Rf G 0), (2, Rf G 46), (3, Rf G 59), (4, I i), (5, I ((oBack (absC σ) (XX xs (i + 1))).1)), (6, I ((oBack (absC σ) (XX xs (i + 1))).2.1))]) dL_law_770 (Nat.le_of_ble_eq_true rfl) rfl ?_
  refine r_aload_n dL_law_772 rfl rfl ?_
  refine r_callV (tX8_thrown G t) dL_law_773 svX8_thrown q663 sh46 (ci := 8) rfl rfl rfl ⟨Nat.le_of_ble_eq_true rfl, Nat.le_of_ble_eq_true rfl⟩ (Nat.le_of_ble_eq_true rfl) ⟨by show k + 1 + 0 + 0 ≤ 601024; omega, by show n + 6 + 0 + 0 ≤ 7293034; omega⟩ ?_
  rintro _ _ ⟨rfl, rfl⟩
  rw [ht7]
  refine r_iload dL_law_776 rfl ?_
  refine r_icmp_eqE (tgt := 783) dL_law_778 (by decide) ?_
  refine r_iload dL_law_783 rfl ?_
  refine r_if_ne (tgt := 800) dL_law_785 (by decide) (by omega) (fun hne => ?_) (fun hne => ?_)
  · skip
    refine r_goto (tgt := 1467) dL_law_800 (by decide) ?_
    refine r_sub [0, 1, 2, 3, 4] rfl ?_
    exact K t (li_end hcs has hdt)
  · skip
    refine r_aload_n dL_law_788 rfl rfl ?_
    refine r_iconst dL_law_789 ?_
    have h59 : t 59 0 = bm ((oBack (absC σ) (XX xs (i + 1))).2.1) := by rw [hdt.2.2 59 (by decide)]; exact hans (by omega)
    refine r_lald dL_law_790 sh59 (by omega) (hv := h59) ?_
    refine r_iload dL_law_791 rfl ?_
    refine r_i2lb dL_law_793 ?_
    refine r_lcmpE dL_law_794 ?_
    refine r_if_eq (tgt := 800) dL_law_795 (by decide) (by omega) (fun _ => ?_) (fun h => absurd rfl h)
    refine r_goto (tgt := 1467) dL_law_800 (by decide) ?_
    refine r_sub [0, 1, 2, 3, 4] rfl ?_
    exact K t (li_end hcs has hdt)
set_option maxHeartbeats 1000000 in
set_option maxRecDepth 100000 in
theorem law_13 {G : GT} {b L : Nat} {xs : Nat → Int32} {k n : Nat} {i : Int} {σ : Sg} (hL : 0 ≤ i ∧ i + 5 ≤ (L : Int) ∧ (L : Int) ≤ 2560) (hi : LI σ) (hk : k ≤ 2000) (hn : n ≤ 20000)
    (K : ∀ σ' : Sg, LI σ' → Rn G mL_law room_1 (EL G b L xs) ZL false SH (k + 1) (n + 6) 1467 [(0, .ref b), (1, Rf G 0), (2, Rf G 46), (3, Rf G 59), (4, I i)] [] σ') : Rn G mL_law room_1 (EL G b L xs) ZL false SH k n 803 [(0, .ref b), (1, Rf G 0), (2, Rf G 46), (3, Rf G 59), (4, I i)] [] σ := by
  refine r_aload_n dL_law_803 rfl rfl ?_
  refine r_aload_n dL_law_804 rfl rfl ?_
  have hcb := oUndo_b (A := absC σ)
  refine r_callW (tL_undo G σ hi.1) dL_law_805 q562 q0 q563 ⟨by decide +kernel, by decide +kernel, pd_L_undo⟩ q561 rfl ⟨Nat.le_of_ble_eq_true rfl, Nat.le_of_ble_eq_true rfl⟩ (Nat.le_of_ble_eq_true rfl) ⟨by show k + 1 ≤ 601024; omega, by show n + 6 ≤ 7293034; omega⟩ ?_
  rintro _ s ⟨rfl, hans, hcs, has, hfs⟩
  have hms := im_c (fun a h1 h2 => hfs a h1 (by omega)) hi.2.1
  have ho : oUndo (absM s) = (oUndo (absC σ)) := by rw [hms.2, hi.2.2]
  refine r_istore (lv' := [(0, .ref b), (1, Rf G 0), (2, Rf G 46), (3, Rf G 59), (4, I i), (5, I ((oUndo (absC σ)).1))]) dL_law_808 (Nat.le_of_ble_eq_true rfl) rfl ?_
  refine r_aload_n dL_law_810 rfl rfl ?_
  have hM := tX8_undo G s hms.1
  rw [ho] at hM
  refine r_callV hM dL_law_811 svX8_undo q803 sh46 (ci := 8) rfl rfl rfl ⟨Nat.le_of_ble_eq_true rfl, Nat.le_of_ble_eq_true rfl⟩ (Nat.le_of_ble_eq_true rfl) ⟨by show k + 1  + 0 ≤ 601024; omega, by show n + 6  + 0 ≤ 7293034; omega⟩ ?_
  rintro _ t ⟨rfl, ht7, hdt⟩
  refine r_istore (lv' := [(0, .ref b), (1, Rf G 0), (2, Rf G 46), (3, Rf G 59), (4, I i), (5, I ((oUndo (absC σ)).1)), (6, I ((oUndo (absC σ)).2.1))]) dL_law_814 (Nat.le_of_ble_eq_true rfl) rfl ?_
  refine r_aload_n dL_law_816 rfl rfl ?_
  refine r_callV (tX8_thrown G t) dL_law_817 svX8_thrown q663 sh46 (ci := 8) rfl rfl rfl ⟨Nat.le_of_ble_eq_true rfl, Nat.le_of_ble_eq_true rfl⟩ (Nat.le_of_ble_eq_true rfl) ⟨by show k + 1 + 0 + 0 ≤ 601024; omega, by show n + 6 + 0 + 0 ≤ 7293034; omega⟩ ?_
  rintro _ _ ⟨rfl, rfl⟩
  rw [ht7]
  refine r_iload dL_law_820 rfl ?_
  refine r_icmp_eqE (tgt := 827) dL_law_822 (by decide) ?_
  refine r_iload dL_law_827 rfl ?_
  refine r_if_ne (tgt := 844) dL_law_829 (by decide) (by omega) (fun hne => ?_) (fun hne => ?_)
  · skip
    refine r_goto (tgt := 1467) dL_law_844 (by decide) ?_
    refine r_sub [0, 1, 2, 3, 4] rfl ?_
    exact K t (li_end hcs has hdt)
  · skip
    refine r_aload_n dL_law_832 rfl rfl ?_
    refine r_iconst dL_law_833 ?_
    have h59 : t 59 0 = bm ((oUndo (absC σ)).2.1) := by rw [hdt.2.2 59 (by decide)]; exact hans (by omega)
    refine r_lald dL_law_834 sh59 (by omega) (hv := h59) ?_
    refine r_iload dL_law_835 rfl ?_
    refine r_i2lb dL_law_837 ?_
    refine r_lcmpE dL_law_838 ?_
    refine r_if_eq (tgt := 844) dL_law_839 (by decide) (by omega) (fun _ => ?_) (fun h => absurd rfl h)
    refine r_goto (tgt := 1467) dL_law_844 (by decide) ?_
    refine r_sub [0, 1, 2, 3, 4] rfl ?_
    exact K t (li_end hcs has hdt)
set_option maxHeartbeats 1000000 in
set_option maxRecDepth 100000 in
theorem law_14 {G : GT} {b L : Nat} {xs : Nat → Int32} {k n : Nat} {i : Int} {σ : Sg} (hL : 0 ≤ i ∧ i + 5 ≤ (L : Int) ∧ (L : Int) ≤ 2560) (hi : LI σ) (hk : k ≤ 2000) (hn : n ≤ 20000)
    (K : ∀ σ' : Sg, LI σ' → Rn G mL_law room_1 (EL G b L xs) ZL false SH (k + 1) (n + 6) 1467 [(0, .ref b), (1, Rf G 0), (2, Rf G 46), (3, Rf G 59), (4, I i)] [] σ') : Rn G mL_law room_1 (EL G b L xs) ZL false SH k n 847 [(0, .ref b), (1, Rf G 0), (2, Rf G 46), (3, Rf G 59), (4, I i)] [] σ := by
  refine r_aload_n dL_law_847 rfl rfl ?_
  refine r_aloadb_n dL_law_848 rfl rfl ?_
  refine r_iload dL_law_849 rfl ?_
  refine r_iconst dL_law_851 ?_
  refine r_iadd dL_law_852 ?_
  refine r_sld dL_law_853 (by omega) ?_
  refine r_aloadb_n dL_law_854 rfl rfl ?_
  refine r_iload dL_law_855 rfl ?_
  refine r_iconst dL_law_857 ?_
  refine r_iadd dL_law_858 ?_
  refine r_sld dL_law_859 (by omega) ?_
  refine r_aload_n dL_law_860 rfl rfl ?_
  have hcb := oCell_b (A := absC σ) (r := XX xs (i + 1)) (c := XX xs (i + 2))
  refine r_callW (tL_cell G σ (XX xs (i + 1)) (XX xs (i + 2)) hi.1 ⟨XX_bd, XX_bd⟩) dL_law_861 q573 q0 q574 ⟨by decide +kernel, by decide +kernel, pd_L_cell⟩ q572 rfl ⟨Nat.le_of_ble_eq_true rfl, Nat.le_of_ble_eq_true rfl⟩ (Nat.le_of_ble_eq_true rfl) ⟨by show k + 1 ≤ 601024; omega, by show n + 6 ≤ 7293034; omega⟩ ?_
  rintro _ s ⟨rfl, hans, hcs, has, hfs⟩
  have hms := im_c (fun a h1 h2 => hfs a h1 (by omega)) hi.2.1
  have ho : oCell (absM s) (XX xs (i + 1)) (XX xs (i + 2)) = (oCell (absC σ) (XX xs (i + 1)) (XX xs (i + 2))) := by rw [hms.2, hi.2.2]
  refine r_istore (lv' := [(0, .ref b), (1, Rf G 0), (2, Rf G 46), (3, Rf G 59), (4, I i), (5, I ((oCell (absC σ) (XX xs (i + 1)) (XX xs (i + 2))).1))]) dL_law_864 (Nat.le_of_ble_eq_true rfl) rfl ?_
  refine r_aload_n dL_law_866 rfl rfl ?_
  refine r_aloadb_n dL_law_867 rfl rfl ?_
  refine r_iload dL_law_868 rfl ?_
  refine r_iconst dL_law_870 ?_
  refine r_iadd dL_law_871 ?_
  refine r_sld dL_law_872 (by omega) ?_
  refine r_aloadb_n dL_law_873 rfl rfl ?_
  refine r_iload dL_law_874 rfl ?_
  refine r_iconst dL_law_876 ?_
  refine r_iadd dL_law_877 ?_
  refine r_sld dL_law_878 (by omega) ?_
  have hM := tX8_cell G s (XX xs (i + 1)) (XX xs (i + 2)) hms.1 ⟨XX_bd, XX_bd⟩
  rw [ho] at hM
  refine r_callV hM dL_law_879 svX8_cell q807 sh46 (ci := 8) rfl rfl rfl ⟨Nat.le_of_ble_eq_true rfl, Nat.le_of_ble_eq_true rfl⟩ (Nat.le_of_ble_eq_true rfl) ⟨by show k + 1  + 0 ≤ 601024; omega, by show n + 6  + 0 ≤ 7293034; omega⟩ ?_
  rintro _ t ⟨rfl, ht7, hdt⟩
  refine r_istore (lv' := [(0, .ref b), (1, Rf G 0), (2, Rf G 46), (3, Rf G 59), (4, I i), (5, I ((oCell (absC σ) (XX xs (i + 1)) (XX xs (i + 2))).1)), (6, I ((oCell (absC σ) (XX xs (i + 1)) (XX xs (i + 2))).2.1))]) dL_law_882 (Nat.le_of_ble_eq_true rfl) rfl ?_
  refine r_aload_n dL_law_884 rfl rfl ?_
  refine r_callV (tX8_thrown G t) dL_law_885 svX8_thrown q663 sh46 (ci := 8) rfl rfl rfl ⟨Nat.le_of_ble_eq_true rfl, Nat.le_of_ble_eq_true rfl⟩ (Nat.le_of_ble_eq_true rfl) ⟨by show k + 1 + 0 + 0 ≤ 601024; omega, by show n + 6 + 0 + 0 ≤ 7293034; omega⟩ ?_
  rintro _ _ ⟨rfl, rfl⟩
  rw [ht7]
  refine r_iload dL_law_888 rfl ?_
  refine r_icmp_eqE (tgt := 895) dL_law_890 (by decide) ?_
  refine r_iload dL_law_895 rfl ?_
  refine r_if_ne (tgt := 912) dL_law_897 (by decide) (by omega) (fun hne => ?_) (fun hne => ?_)
  · skip
    refine r_goto (tgt := 1467) dL_law_912 (by decide) ?_
    refine r_sub [0, 1, 2, 3, 4] rfl ?_
    exact K t (li_end hcs has hdt)
  · skip
    refine r_aload_n dL_law_900 rfl rfl ?_
    refine r_iconst dL_law_901 ?_
    have h59 : t 59 0 = bm ((oCell (absC σ) (XX xs (i + 1)) (XX xs (i + 2))).2.1) := by rw [hdt.2.2 59 (by decide)]; exact hans (by omega)
    refine r_lald dL_law_902 sh59 (by omega) (hv := h59) ?_
    refine r_iload dL_law_903 rfl ?_
    refine r_i2lb dL_law_905 ?_
    refine r_lcmpE dL_law_906 ?_
    refine r_if_eq (tgt := 912) dL_law_907 (by decide) (by omega) (fun _ => ?_) (fun h => absurd rfl h)
    refine r_goto (tgt := 1467) dL_law_912 (by decide) ?_
    refine r_sub [0, 1, 2, 3, 4] rfl ?_
    exact K t (li_end hcs has hdt)
set_option maxHeartbeats 1000000 in
set_option maxRecDepth 100000 in
theorem law_15 {G : GT} {b L : Nat} {xs : Nat → Int32} {k n : Nat} {i : Int} {σ : Sg} (hL : 0 ≤ i ∧ i + 5 ≤ (L : Int) ∧ (L : Int) ≤ 2560) (hi : LI σ) (hk : k ≤ 2000) (hn : n ≤ 20000)
    (K : ∀ σ' : Sg, LI σ' → Rn G mL_law room_1 (EL G b L xs) ZL false SH (k + 1) (n + 6) 1467 [(0, .ref b), (1, Rf G 0), (2, Rf G 46), (3, Rf G 59), (4, I i)] [] σ') : Rn G mL_law room_1 (EL G b L xs) ZL false SH k n 915 [(0, .ref b), (1, Rf G 0), (2, Rf G 46), (3, Rf G 59), (4, I i)] [] σ := by
  refine r_aload_n dL_law_915 rfl rfl ?_
  refine r_aloadb_n dL_law_916 rfl rfl ?_
  refine r_iload dL_law_917 rfl ?_
  refine r_iconst dL_law_919 ?_
  refine r_iadd dL_law_920 ?_
  refine r_sld dL_law_921 (by omega) ?_
  refine r_aloadb_n dL_law_922 rfl rfl ?_
  refine r_iload dL_law_923 rfl ?_
  refine r_iconst dL_law_925 ?_
  refine r_iadd dL_law_926 ?_
  refine r_sld dL_law_927 (by omega) ?_
  refine r_aload_n dL_law_928 rfl rfl ?_
  have hcb := oPlace_b (A := absC σ) (r := XX xs (i + 1)) (w := XX xs (i + 2))
  refine r_callW (tL_place G σ (XX xs (i + 1)) (XX xs (i + 2)) hi.1 ⟨XX_bd, XX_bd⟩) dL_law_929 q580 q0 q581 ⟨by decide +kernel, by decide +kernel, pd_L_place⟩ q579 rfl ⟨Nat.le_of_ble_eq_true rfl, Nat.le_of_ble_eq_true rfl⟩ (Nat.le_of_ble_eq_true rfl) ⟨by show k + 1 ≤ 601024; omega, by show n + 6 ≤ 7293034; omega⟩ ?_
  rintro _ s ⟨rfl, hans, hcs, has, hfs⟩
  have hms := im_c (fun a h1 h2 => hfs a h1 (by omega)) hi.2.1
  have ho : oPlace (absM s) (XX xs (i + 1)) (XX xs (i + 2)) = (oPlace (absC σ) (XX xs (i + 1)) (XX xs (i + 2))) := by rw [hms.2, hi.2.2]
  refine r_istore (lv' := [(0, .ref b), (1, Rf G 0), (2, Rf G 46), (3, Rf G 59), (4, I i), (5, I ((oPlace (absC σ) (XX xs (i + 1)) (XX xs (i + 2))).1))]) dL_law_932 (Nat.le_of_ble_eq_true rfl) rfl ?_
  refine r_aload_n dL_law_934 rfl rfl ?_
  refine r_aloadb_n dL_law_935 rfl rfl ?_
  refine r_iload dL_law_936 rfl ?_
  refine r_iconst dL_law_938 ?_
  refine r_iadd dL_law_939 ?_
  refine r_sld dL_law_940 (by omega) ?_
  refine r_aloadb_n dL_law_941 rfl rfl ?_
  refine r_iload dL_law_942 rfl ?_
  refine r_iconst dL_law_944 ?_
  refine r_iadd dL_law_945 ?_
  refine r_sld dL_law_946 (by omega) ?_
  have hM := tX8_place G s (XX xs (i + 1)) (XX xs (i + 2)) hms.1 ⟨XX_bd, XX_bd⟩
  rw [ho] at hM
  refine r_callV hM dL_law_947 svX8_place q811 sh46 (ci := 8) rfl rfl rfl ⟨Nat.le_of_ble_eq_true rfl, Nat.le_of_ble_eq_true rfl⟩ (Nat.le_of_ble_eq_true rfl) ⟨by show k + 1  + 0 ≤ 601024; omega, by show n + 6  + 0 ≤ 7293034; omega⟩ ?_
  rintro _ t ⟨rfl, ht7, hdt⟩
  refine r_istore (lv' := [(0, .ref b), (1, Rf G 0), (2, Rf G 46), (3, Rf G 59), (4, I i), (5, I ((oPlace (absC σ) (XX xs (i + 1)) (XX xs (i + 2))).1)), (6, I ((oPlace (absC σ) (XX xs (i + 1)) (XX xs (i + 2))).2.1))]) dL_law_950 (Nat.le_of_ble_eq_true rfl) rfl ?_
  refine r_aload_n dL_law_952 rfl rfl ?_
  refine r_callV (tX8_thrown G t) dL_law_953 svX8_thrown q663 sh46 (ci := 8) rfl rfl rfl ⟨Nat.le_of_ble_eq_true rfl, Nat.le_of_ble_eq_true rfl⟩ (Nat.le_of_ble_eq_true rfl) ⟨by show k + 1 + 0 + 0 ≤ 601024; omega, by show n + 6 + 0 + 0 ≤ 7293034; omega⟩ ?_
  rintro _ _ ⟨rfl, rfl⟩
  rw [ht7]
  refine r_iload dL_law_956 rfl ?_
  refine r_icmp_eqE (tgt := 963) dL_law_958 (by decide) ?_
  refine r_iload dL_law_963 rfl ?_
  refine r_if_ne (tgt := 980) dL_law_965 (by decide) (by omega) (fun hne => ?_) (fun hne => ?_)
  · skip
    refine r_goto (tgt := 1467) dL_law_980 (by decide) ?_
    refine r_sub [0, 1, 2, 3, 4] rfl ?_
    exact K t (li_end hcs has hdt)
  · skip
    refine r_aload_n dL_law_968 rfl rfl ?_
    refine r_iconst dL_law_969 ?_
    have h59 : t 59 0 = bm ((oPlace (absC σ) (XX xs (i + 1)) (XX xs (i + 2))).2.1) := by rw [hdt.2.2 59 (by decide)]; exact hans (by omega)
    refine r_lald dL_law_970 sh59 (by omega) (hv := h59) ?_
    refine r_iload dL_law_971 rfl ?_
    refine r_i2lb dL_law_973 ?_
    refine r_lcmpE dL_law_974 ?_
    refine r_if_eq (tgt := 980) dL_law_975 (by decide) (by omega) (fun _ => ?_) (fun h => absurd rfl h)
    refine r_goto (tgt := 1467) dL_law_980 (by decide) ?_
    refine r_sub [0, 1, 2, 3, 4] rfl ?_
    exact K t (li_end hcs has hdt)
set_option maxHeartbeats 1000000 in
set_option maxRecDepth 100000 in
theorem law_16 {G : GT} {b L : Nat} {xs : Nat → Int32} {k n : Nat} {i : Int} {σ : Sg} (hL : 0 ≤ i ∧ i + 5 ≤ (L : Int) ∧ (L : Int) ≤ 2560) (hi : LI σ) (hk : k ≤ 2000) (hn : n ≤ 20000)
    (K : ∀ σ' : Sg, LI σ' → Rn G mL_law room_1 (EL G b L xs) ZL false SH (k + 1) (n + 6) 1467 [(0, .ref b), (1, Rf G 0), (2, Rf G 46), (3, Rf G 59), (4, I i)] [] σ') : Rn G mL_law room_1 (EL G b L xs) ZL false SH k n 983 [(0, .ref b), (1, Rf G 0), (2, Rf G 46), (3, Rf G 59), (4, I i)] [] σ := by
  refine r_aload_n dL_law_983 rfl rfl ?_
  refine r_aloadb_n dL_law_984 rfl rfl ?_
  refine r_iload dL_law_985 rfl ?_
  refine r_iconst dL_law_987 ?_
  refine r_iadd dL_law_988 ?_
  refine r_sld dL_law_989 (by omega) ?_
  refine r_aload_n dL_law_990 rfl rfl ?_
  have hcb := oLooks_b (A := absC σ) (w := XX xs (i + 1))
  refine r_callW (tL_looks G σ (XX xs (i + 1)) hi.1 XX_bd) dL_law_991 q587 q0 q588 ⟨by decide +kernel, by decide +kernel, pd_L_looks⟩ q586 rfl ⟨Nat.le_of_ble_eq_true rfl, Nat.le_of_ble_eq_true rfl⟩ (Nat.le_of_ble_eq_true rfl) ⟨by show k + 1 ≤ 601024; omega, by show n + 6 ≤ 7293034; omega⟩ ?_
  rintro _ s ⟨rfl, hans, hcs, has, hfs⟩
  have hms := im_c (fun a h1 h2 => hfs a h1 (by omega)) hi.2.1
  have ho : oLooks (absM s) (XX xs (i + 1)) = (oLooks (absC σ) (XX xs (i + 1))) := by rw [hms.2, hi.2.2]
  refine r_istore (lv' := [(0, .ref b), (1, Rf G 0), (2, Rf G 46), (3, Rf G 59), (4, I i), (5, I ((oLooks (absC σ) (XX xs (i + 1))).1))]) dL_law_994 (Nat.le_of_ble_eq_true rfl) rfl ?_
  refine r_aload_n dL_law_996 rfl rfl ?_
  refine r_aloadb_n dL_law_997 rfl rfl ?_
  refine r_iload dL_law_998 rfl ?_
  refine r_iconst dL_law_1000 ?_
  refine r_iadd dL_law_1001 ?_
  refine r_sld dL_law_1002 (by omega) ?_
  have hM := tX8_looks G s (XX xs (i + 1)) hms.1 XX_bd
  rw [ho] at hM
  refine r_callV hM dL_law_1003 svX8_looks q818 sh46 (ci := 8) rfl rfl rfl ⟨Nat.le_of_ble_eq_true rfl, Nat.le_of_ble_eq_true rfl⟩ (Nat.le_of_ble_eq_true rfl) ⟨by show k + 1  + 0 ≤ 601024; omega, by show n + 6  + 0 ≤ 7293034; omega⟩ ?_
  rintro _ t ⟨rfl, ht7, hdt⟩
  refine r_istore (lv' := [(0, .ref b), (1, Rf G 0), (2, Rf G 46), (3, Rf G 59), (4, I i), (5, I ((oLooks (absC σ) (XX xs (i + 1))).1)), (6, I ((oLooks (absC σ) (XX xs (i + 1))).2.1))]) dL_law_1006 (Nat.le_of_ble_eq_true rfl) rfl ?_
  refine r_aload_n dL_law_1008 rfl rfl ?_
  refine r_callV (tX8_thrown G t) dL_law_1009 svX8_thrown q663 sh46 (ci := 8) rfl rfl rfl ⟨Nat.le_of_ble_eq_true rfl, Nat.le_of_ble_eq_true rfl⟩ (Nat.le_of_ble_eq_true rfl) ⟨by show k + 1 + 0 + 0 ≤ 601024; omega, by show n + 6 + 0 + 0 ≤ 7293034; omega⟩ ?_
  rintro _ _ ⟨rfl, rfl⟩
  rw [ht7]
  refine r_iload dL_law_1012 rfl ?_
  refine r_icmp_eqE (tgt := 1019) dL_law_1014 (by decide) ?_
  refine r_iload dL_law_1019 rfl ?_
  refine r_if_ne (tgt := 1036) dL_law_1021 (by decide) (by omega) (fun hne => ?_) (fun hne => ?_)
  · skip
    refine r_goto (tgt := 1467) dL_law_1036 (by decide) ?_
    refine r_sub [0, 1, 2, 3, 4] rfl ?_
    exact K t (li_end hcs has hdt)
  · skip
    refine r_aload_n dL_law_1024 rfl rfl ?_
    refine r_iconst dL_law_1025 ?_
    have h59 : t 59 0 = bm ((oLooks (absC σ) (XX xs (i + 1))).2.1) := by rw [hdt.2.2 59 (by decide)]; exact hans (by omega)
    refine r_lald dL_law_1026 sh59 (by omega) (hv := h59) ?_
    refine r_iload dL_law_1027 rfl ?_
    refine r_i2lb dL_law_1029 ?_
    refine r_lcmpE dL_law_1030 ?_
    refine r_if_eq (tgt := 1036) dL_law_1031 (by decide) (by omega) (fun _ => ?_) (fun h => absurd rfl h)
    refine r_goto (tgt := 1467) dL_law_1036 (by decide) ?_
    refine r_sub [0, 1, 2, 3, 4] rfl ?_
    exact K t (li_end hcs has hdt)
set_option maxHeartbeats 1000000 in
set_option maxRecDepth 100000 in
theorem law_17 {G : GT} {b L : Nat} {xs : Nat → Int32} {k n : Nat} {i : Int} {σ : Sg} (hL : 0 ≤ i ∧ i + 5 ≤ (L : Int) ∧ (L : Int) ≤ 2560) (hi : LI σ) (hk : k ≤ 2000) (hn : n ≤ 20000)
    (K : ∀ σ' : Sg, LI σ' → Rn G mL_law room_1 (EL G b L xs) ZL false SH (k + 1) (n + 6) 1467 [(0, .ref b), (1, Rf G 0), (2, Rf G 46), (3, Rf G 59), (4, I i)] [] σ') : Rn G mL_law room_1 (EL G b L xs) ZL false SH k n 1039 [(0, .ref b), (1, Rf G 0), (2, Rf G 46), (3, Rf G 59), (4, I i)] [] σ := by
  refine r_aload_n dL_law_1039 rfl rfl ?_
  refine r_callV (tX7_boundA G σ hi.1) dL_law_1040 svX7_bound q220 sh0 (ci := 7) rfl rfl rfl ⟨Nat.le_of_ble_eq_true rfl, Nat.le_of_ble_eq_true rfl⟩ (Nat.le_of_ble_eq_true rfl) ⟨by show k + 0 ≤ 601024; omega, by show n + 0 ≤ 7293034; omega⟩ ?_
  rintro _ s ⟨h1, rfl, hcs, has, hfs⟩
  have hms := im_c (fun a h1 h2 => hfs a h1) hi.2.1
  have ho : oBound (absM s) = (oBound (absC σ)) := by rw [hms.2, hi.2.2]
  refine r_aload_n dL_law_1043 rfl rfl ?_
  have hM := tX8_bound G s hms.1
  rw [ho] at hM
  refine r_callV hM dL_law_1044 svX8_bound q825 sh46 (ci := 8) rfl rfl rfl ⟨Nat.le_of_ble_eq_true rfl, Nat.le_of_ble_eq_true rfl⟩ (Nat.le_of_ble_eq_true rfl) ⟨by show k + 0 + 0 ≤ 601024; omega, by show n + 0 + 0 ≤ 7293034; omega⟩ ?_
  rintro _ t ⟨rfl, ht7, hdt⟩
  refine r_icmp_eqE (tgt := 1467) dL_law_1047 (by decide) ?_
  refine r_widen (k2 := k + 1) (n2 := n + 6) (by omega) (by omega) ?_
  exact K t (li_end hcs has hdt)
set_option maxHeartbeats 1000000 in
set_option maxRecDepth 100000 in
theorem law_18 {G : GT} {b L : Nat} {xs : Nat → Int32} {k n : Nat} {i : Int} {σ : Sg} (hL : 0 ≤ i ∧ i + 5 ≤ (L : Int) ∧ (L : Int) ≤ 2560) (hi : LI σ) (hk : k ≤ 2000) (hn : n ≤ 20000)
    (K : ∀ σ' : Sg, LI σ' → Rn G mL_law room_1 (EL G b L xs) ZL false SH (k + 1) (n + 6) 1467 [(0, .ref b), (1, Rf G 0), (2, Rf G 46), (3, Rf G 59), (4, I i)] [] σ') : Rn G mL_law room_1 (EL G b L xs) ZL false SH k n 1052 [(0, .ref b), (1, Rf G 0), (2, Rf G 46), (3, Rf G 59), (4, I i)] [] σ := by
  refine r_aload_n dL_law_1052 rfl rfl ?_
  refine r_aloadb_n dL_law_1053 rfl rfl ?_
  refine r_iload dL_law_1054 rfl ?_
  refine r_iconst dL_law_1056 ?_
  refine r_iadd dL_law_1057 ?_
  refine r_sld dL_law_1058 (by omega) ?_
  refine r_aload_n dL_law_1059 rfl rfl ?_
  have hcb := oWitness_b (A := absC σ) (k := XX xs (i + 1))
  refine r_callW (tL_witness G σ (XX xs (i + 1)) hi.1 XX_bd) dL_law_1060 q594 q0 q595 ⟨by decide +kernel, by decide +kernel, pd_L_witness⟩ q593 rfl ⟨Nat.le_of_ble_eq_true rfl, Nat.le_of_ble_eq_true rfl⟩ (Nat.le_of_ble_eq_true rfl) ⟨by show k + 1 ≤ 601024; omega, by show n + 6 ≤ 7293034; omega⟩ ?_
  rintro _ s ⟨rfl, hans, hcs, has, hfs⟩
  have hms := im_c (fun a h1 h2 => hfs a h1 (by omega)) hi.2.1
  have ho : oWitness (absM s) (XX xs (i + 1)) = (oWitness (absC σ) (XX xs (i + 1))) := by rw [hms.2, hi.2.2]
  refine r_istore (lv' := [(0, .ref b), (1, Rf G 0), (2, Rf G 46), (3, Rf G 59), (4, I i), (5, I ((oWitness (absC σ) (XX xs (i + 1))).1))]) dL_law_1063 (Nat.le_of_ble_eq_true rfl) rfl ?_
  refine r_aload_n dL_law_1065 rfl rfl ?_
  refine r_aloadb_n dL_law_1066 rfl rfl ?_
  refine r_iload dL_law_1067 rfl ?_
  refine r_iconst dL_law_1069 ?_
  refine r_iadd dL_law_1070 ?_
  refine r_sld dL_law_1071 (by omega) ?_
  have hM := tX8_witness G s (XX xs (i + 1)) hms.1 XX_bd
  rw [ho] at hM
  refine r_callV hM dL_law_1072 svX8_witness q832 sh46 (ci := 8) rfl rfl rfl ⟨Nat.le_of_ble_eq_true rfl, Nat.le_of_ble_eq_true rfl⟩ (Nat.le_of_ble_eq_true rfl) ⟨by show k + 1  + 0 ≤ 601024; omega, by show n + 6  + 0 ≤ 7293034; omega⟩ ?_
  rintro _ t ⟨rfl, ht7, hdt⟩
  refine r_istore (lv' := [(0, .ref b), (1, Rf G 0), (2, Rf G 46), (3, Rf G 59), (4, I i), (5, I ((oWitness (absC σ) (XX xs (i + 1))).1)), (6, I ((oWitness (absC σ) (XX xs (i + 1))).2.1))]) dL_law_1075 (Nat.le_of_ble_eq_true rfl) rfl ?_
  refine r_aload_n dL_law_1077 rfl rfl ?_
  refine r_callV (tX8_thrown G t) dL_law_1078 svX8_thrown q663 sh46 (ci := 8) rfl rfl rfl ⟨Nat.le_of_ble_eq_true rfl, Nat.le_of_ble_eq_true rfl⟩ (Nat.le_of_ble_eq_true rfl) ⟨by show k + 1 + 0 + 0 ≤ 601024; omega, by show n + 6 + 0 + 0 ≤ 7293034; omega⟩ ?_
  rintro _ _ ⟨rfl, rfl⟩
  rw [ht7]
  refine r_iload dL_law_1081 rfl ?_
  refine r_icmp_eqE (tgt := 1088) dL_law_1083 (by decide) ?_
  refine r_iload dL_law_1088 rfl ?_
  refine r_if_ne (tgt := 1105) dL_law_1090 (by decide) (by omega) (fun hne => ?_) (fun hne => ?_)
  · skip
    refine r_goto (tgt := 1467) dL_law_1105 (by decide) ?_
    refine r_sub [0, 1, 2, 3, 4] rfl ?_
    exact K t (li_end hcs has hdt)
  · skip
    refine r_aload_n dL_law_1093 rfl rfl ?_
    refine r_iconst dL_law_1094 ?_
    have h59 : t 59 0 = bm ((oWitness (absC σ) (XX xs (i + 1))).2.1) := by rw [hdt.2.2 59 (by decide)]; exact hans (by omega)
    refine r_lald dL_law_1095 sh59 (by omega) (hv := h59) ?_
    refine r_iload dL_law_1096 rfl ?_
    refine r_i2lb dL_law_1098 ?_
    refine r_lcmpE dL_law_1099 ?_
    refine r_if_eq (tgt := 1105) dL_law_1100 (by decide) (by omega) (fun _ => ?_) (fun h => absurd rfl h)
    refine r_goto (tgt := 1467) dL_law_1105 (by decide) ?_
    refine r_sub [0, 1, 2, 3, 4] rfl ?_
    exact K t (li_end hcs has hdt)
set_option maxHeartbeats 1000000 in
set_option maxRecDepth 100000 in
theorem law_19 {G : GT} {b L : Nat} {xs : Nat → Int32} {k n : Nat} {i : Int} {σ : Sg} (hL : 0 ≤ i ∧ i + 5 ≤ (L : Int) ∧ (L : Int) ≤ 2560) (hi : LI σ) (hk : k ≤ 2000) (hn : n ≤ 20000)
    (K : ∀ σ' : Sg, LI σ' → Rn G mL_law room_1 (EL G b L xs) ZL false SH (k + 1) (n + 6) 1467 [(0, .ref b), (1, Rf G 0), (2, Rf G 46), (3, Rf G 59), (4, I i)] [] σ') : Rn G mL_law room_1 (EL G b L xs) ZL false SH k n 1108 [(0, .ref b), (1, Rf G 0), (2, Rf G 46), (3, Rf G 59), (4, I i)] [] σ := by
  refine r_aload_n dL_law_1108 rfl rfl ?_
  refine r_aloadb_n dL_law_1109 rfl rfl ?_
  refine r_iload dL_law_1110 rfl ?_
  refine r_iconst dL_law_1112 ?_
  refine r_iadd dL_law_1113 ?_
  refine r_sld dL_law_1114 (by omega) ?_
  refine r_aload_n dL_law_1115 rfl rfl ?_
  have hcb := oCount_b (A := absC σ) (k := XX xs (i + 1))
  refine r_callW (tL_count G σ (XX xs (i + 1)) hi.1 XX_bd) dL_law_1116 q601 q0 q602 ⟨by decide +kernel, by decide +kernel, pd_L_count⟩ q600 rfl ⟨Nat.le_of_ble_eq_true rfl, Nat.le_of_ble_eq_true rfl⟩ (Nat.le_of_ble_eq_true rfl) ⟨by show k + 1 ≤ 601024; omega, by show n + 6 ≤ 7293034; omega⟩ ?_
  rintro _ s ⟨rfl, hans, hcs, has, hfs⟩
  have hms := im_c (fun a h1 h2 => hfs a h1 (by omega)) hi.2.1
  have ho : oCount (absM s) (XX xs (i + 1)) = (oCount (absC σ) (XX xs (i + 1))) := by rw [hms.2, hi.2.2]
  refine r_istore (lv' := [(0, .ref b), (1, Rf G 0), (2, Rf G 46), (3, Rf G 59), (4, I i), (5, I ((oCount (absC σ) (XX xs (i + 1))).1))]) dL_law_1119 (Nat.le_of_ble_eq_true rfl) rfl ?_
  refine r_aload_n dL_law_1121 rfl rfl ?_
  refine r_aloadb_n dL_law_1122 rfl rfl ?_
  refine r_iload dL_law_1123 rfl ?_
  refine r_iconst dL_law_1125 ?_
  refine r_iadd dL_law_1126 ?_
  refine r_sld dL_law_1127 (by omega) ?_
  have hM := tX8_count G s (XX xs (i + 1)) hms.1 XX_bd
  rw [ho] at hM
  refine r_callV hM dL_law_1128 svX8_count q842 sh46 (ci := 8) rfl rfl rfl ⟨Nat.le_of_ble_eq_true rfl, Nat.le_of_ble_eq_true rfl⟩ (Nat.le_of_ble_eq_true rfl) ⟨by show k + 1  + 0 ≤ 601024; omega, by show n + 6  + 0 ≤ 7293034; omega⟩ ?_
  rintro _ t ⟨rfl, ht7, hdt⟩
  refine r_istore (lv' := [(0, .ref b), (1, Rf G 0), (2, Rf G 46), (3, Rf G 59), (4, I i), (5, I ((oCount (absC σ) (XX xs (i + 1))).1)), (6, I ((oCount (absC σ) (XX xs (i + 1))).2.1))]) dL_law_1131 (Nat.le_of_ble_eq_true rfl) rfl ?_
  refine r_aload_n dL_law_1133 rfl rfl ?_
  refine r_callV (tX8_thrown G t) dL_law_1134 svX8_thrown q663 sh46 (ci := 8) rfl rfl rfl ⟨Nat.le_of_ble_eq_true rfl, Nat.le_of_ble_eq_true rfl⟩ (Nat.le_of_ble_eq_true rfl) ⟨by show k + 1 + 0 + 0 ≤ 601024; omega, by show n + 6 + 0 + 0 ≤ 7293034; omega⟩ ?_
  rintro _ _ ⟨rfl, rfl⟩
  rw [ht7]
  refine r_iload dL_law_1137 rfl ?_
  refine r_icmp_eqE (tgt := 1144) dL_law_1139 (by decide) ?_
  refine r_iload dL_law_1144 rfl ?_
  refine r_if_ne (tgt := 1161) dL_law_1146 (by decide) (by omega) (fun hne => ?_) (fun hne => ?_)
  · skip
    refine r_goto (tgt := 1467) dL_law_1161 (by decide) ?_
    refine r_sub [0, 1, 2, 3, 4] rfl ?_
    exact K t (li_end hcs has hdt)
  · skip
    refine r_aload_n dL_law_1149 rfl rfl ?_
    refine r_iconst dL_law_1150 ?_
    have h59 : t 59 0 = bm ((oCount (absC σ) (XX xs (i + 1))).2.1) := by rw [hdt.2.2 59 (by decide)]; exact hans (by omega)
    refine r_lald dL_law_1151 sh59 (by omega) (hv := h59) ?_
    refine r_iload dL_law_1152 rfl ?_
    refine r_i2lb dL_law_1154 ?_
    refine r_lcmpE dL_law_1155 ?_
    refine r_if_eq (tgt := 1161) dL_law_1156 (by decide) (by omega) (fun _ => ?_) (fun h => absurd rfl h)
    refine r_goto (tgt := 1467) dL_law_1161 (by decide) ?_
    refine r_sub [0, 1, 2, 3, 4] rfl ?_
    exact K t (li_end hcs has hdt)
set_option maxHeartbeats 1000000 in
set_option maxRecDepth 100000 in
theorem law_20 {G : GT} {b L : Nat} {xs : Nat → Int32} {k n : Nat} {i : Int} {σ : Sg} (hL : 0 ≤ i ∧ i + 5 ≤ (L : Int) ∧ (L : Int) ≤ 2560) (hi : LI σ) (hk : k ≤ 2000) (hn : n ≤ 20000)
    (K : ∀ σ' : Sg, LI σ' → Rn G mL_law room_1 (EL G b L xs) ZL false SH (k + 1) (n + 6) 1467 [(0, .ref b), (1, Rf G 0), (2, Rf G 46), (3, Rf G 59), (4, I i)] [] σ') : Rn G mL_law room_1 (EL G b L xs) ZL false SH k n 1164 [(0, .ref b), (1, Rf G 0), (2, Rf G 46), (3, Rf G 59), (4, I i)] [] σ := by
  refine r_aload_n dL_law_1164 rfl rfl ?_
  refine r_aloadb_n dL_law_1165 rfl rfl ?_
  refine r_iload dL_law_1166 rfl ?_
  refine r_iconst dL_law_1168 ?_
  refine r_iadd dL_law_1169 ?_
  refine r_sld dL_law_1170 (by omega) ?_
  refine r_aload_n dL_law_1171 rfl rfl ?_
  have hcb := oWeight_b (A := absC σ) (i := XX xs (i + 1))
  refine r_callW (tL_weight G σ (XX xs (i + 1)) hi.1 XX_bd) dL_law_1172 q608 q0 q609 ⟨by decide +kernel, by decide +kernel, pd_L_weight⟩ q607 rfl ⟨Nat.le_of_ble_eq_true rfl, Nat.le_of_ble_eq_true rfl⟩ (Nat.le_of_ble_eq_true rfl) ⟨by show k + 1 ≤ 601024; omega, by show n + 6 ≤ 7293034; omega⟩ ?_
  rintro _ s ⟨rfl, hans, hcs, has, hfs⟩
  have hms := im_c (fun a h1 h2 => hfs a h1 (by omega)) hi.2.1
  have ho : oWeight (absM s) (XX xs (i + 1)) = (oWeight (absC σ) (XX xs (i + 1))) := by rw [hms.2, hi.2.2]
  refine r_istore (lv' := [(0, .ref b), (1, Rf G 0), (2, Rf G 46), (3, Rf G 59), (4, I i), (5, I ((oWeight (absC σ) (XX xs (i + 1))).1))]) dL_law_1175 (Nat.le_of_ble_eq_true rfl) rfl ?_
  refine r_aload_n dL_law_1177 rfl rfl ?_
  refine r_aloadb_n dL_law_1178 rfl rfl ?_
  refine r_iload dL_law_1179 rfl ?_
  refine r_iconst dL_law_1181 ?_
  refine r_iadd dL_law_1182 ?_
  refine r_sld dL_law_1183 (by omega) ?_
  have hM := tX8_weight G s (XX xs (i + 1)) hms.1 XX_bd
  rw [ho] at hM
  refine r_callV hM dL_law_1184 svX8_weight q855 sh46 (ci := 8) rfl rfl rfl ⟨Nat.le_of_ble_eq_true rfl, Nat.le_of_ble_eq_true rfl⟩ (Nat.le_of_ble_eq_true rfl) ⟨by show k + 1  + 0 ≤ 601024; omega, by show n + 6  + 0 ≤ 7293034; omega⟩ ?_
  rintro _ t ⟨rfl, ht7, hdt⟩
  refine r_istore (lv' := [(0, .ref b), (1, Rf G 0), (2, Rf G 46), (3, Rf G 59), (4, I i), (5, I ((oWeight (absC σ) (XX xs (i + 1))).1)), (6, I ((oWeight (absC σ) (XX xs (i + 1))).2.1))]) dL_law_1187 (Nat.le_of_ble_eq_true rfl) rfl ?_
  refine r_aload_n dL_law_1189 rfl rfl ?_
  refine r_callV (tX8_thrown G t) dL_law_1190 svX8_thrown q663 sh46 (ci := 8) rfl rfl rfl ⟨Nat.le_of_ble_eq_true rfl, Nat.le_of_ble_eq_true rfl⟩ (Nat.le_of_ble_eq_true rfl) ⟨by show k + 1 + 0 + 0 ≤ 601024; omega, by show n + 6 + 0 + 0 ≤ 7293034; omega⟩ ?_
  rintro _ _ ⟨rfl, rfl⟩
  rw [ht7]
  refine r_iload dL_law_1193 rfl ?_
  refine r_icmp_eqE (tgt := 1200) dL_law_1195 (by decide) ?_
  refine r_iload dL_law_1200 rfl ?_
  refine r_if_ne (tgt := 1217) dL_law_1202 (by decide) (by omega) (fun hne => ?_) (fun hne => ?_)
  · skip
    refine r_goto (tgt := 1467) dL_law_1217 (by decide) ?_
    refine r_sub [0, 1, 2, 3, 4] rfl ?_
    exact K t (li_end hcs has hdt)
  · skip
    refine r_aload_n dL_law_1205 rfl rfl ?_
    refine r_iconst dL_law_1206 ?_
    have h59 : t 59 0 = bm ((oWeight (absC σ) (XX xs (i + 1))).2.1) := by rw [hdt.2.2 59 (by decide)]; exact hans (by omega)
    refine r_lald dL_law_1207 sh59 (by omega) (hv := h59) ?_
    refine r_iload dL_law_1208 rfl ?_
    refine r_i2lb dL_law_1210 ?_
    refine r_lcmpE dL_law_1211 ?_
    refine r_if_eq (tgt := 1217) dL_law_1212 (by decide) (by omega) (fun _ => ?_) (fun h => absurd rfl h)
    refine r_goto (tgt := 1467) dL_law_1217 (by decide) ?_
    refine r_sub [0, 1, 2, 3, 4] rfl ?_
    exact K t (li_end hcs has hdt)
set_option maxHeartbeats 1000000 in
set_option maxRecDepth 100000 in
theorem law_21 {G : GT} {b L : Nat} {xs : Nat → Int32} {k n : Nat} {i : Int} {σ : Sg} (hL : 0 ≤ i ∧ i + 5 ≤ (L : Int) ∧ (L : Int) ≤ 2560) (hi : LI σ) (hk : k ≤ 2000) (hn : n ≤ 20000)
    (K : ∀ σ' : Sg, LI σ' → Rn G mL_law room_1 (EL G b L xs) ZL false SH (k + 1) (n + 6) 1467 [(0, .ref b), (1, Rf G 0), (2, Rf G 46), (3, Rf G 59), (4, I i)] [] σ') : Rn G mL_law room_1 (EL G b L xs) ZL false SH k n 1220 [(0, .ref b), (1, Rf G 0), (2, Rf G 46), (3, Rf G 59), (4, I i)] [] σ := by
  refine r_aload_n dL_law_1220 rfl rfl ?_
  refine r_aloadb_n dL_law_1221 rfl rfl ?_
  refine r_iload dL_law_1222 rfl ?_
  refine r_iconst dL_law_1224 ?_
  refine r_iadd dL_law_1225 ?_
  refine r_sld dL_law_1226 (by omega) ?_
  refine r_aloadb_n dL_law_1227 rfl rfl ?_
  refine r_iload dL_law_1228 rfl ?_
  refine r_iconst dL_law_1230 ?_
  refine r_iadd dL_law_1231 ?_
  refine r_sld dL_law_1232 (by omega) ?_
  refine r_aload_n dL_law_1233 rfl rfl ?_
  have hcb := oCost_b (A := absC σ) (p := XX xs (i + 1)) (k := XX xs (i + 2))
  refine r_callW (tL_cost G σ (XX xs (i + 1)) (XX xs (i + 2)) hi.1 ⟨XX_bd, XX_bd⟩) dL_law_1234 q615 q0 q616 ⟨by decide +kernel, by decide +kernel, pd_L_cost⟩ q614 rfl ⟨Nat.le_of_ble_eq_true rfl, Nat.le_of_ble_eq_true rfl⟩ (Nat.le_of_ble_eq_true rfl) ⟨by show k + 1 ≤ 601024; omega, by show n + 6 ≤ 7293034; omega⟩ ?_
  rintro _ s ⟨rfl, hans, hcs, has, hfs⟩
  have hms := im_c (fun a h1 h2 => hfs a h1 (by omega)) hi.2.1
  have ho : oCost (absM s) (XX xs (i + 1)) (XX xs (i + 2)) = (oCost (absC σ) (XX xs (i + 1)) (XX xs (i + 2))) := by rw [hms.2, hi.2.2]
  refine r_istore (lv' := [(0, .ref b), (1, Rf G 0), (2, Rf G 46), (3, Rf G 59), (4, I i), (5, I ((oCost (absC σ) (XX xs (i + 1)) (XX xs (i + 2))).1))]) dL_law_1237 (Nat.le_of_ble_eq_true rfl) rfl ?_
  refine r_aload_n dL_law_1239 rfl rfl ?_
  refine r_aloadb_n dL_law_1240 rfl rfl ?_
  refine r_iload dL_law_1241 rfl ?_
  refine r_iconst dL_law_1243 ?_
  refine r_iadd dL_law_1244 ?_
  refine r_sld dL_law_1245 (by omega) ?_
  refine r_aloadb_n dL_law_1246 rfl rfl ?_
  refine r_iload dL_law_1247 rfl ?_
  refine r_iconst dL_law_1249 ?_
  refine r_iadd dL_law_1250 ?_
  refine r_sld dL_law_1251 (by omega) ?_
  have hM := tX8_cost G s (XX xs (i + 1)) (XX xs (i + 2)) hms.1 ⟨XX_bd, XX_bd⟩
  rw [ho] at hM
  refine r_callV hM dL_law_1252 svX8_cost q859 sh46 (ci := 8) rfl rfl rfl ⟨Nat.le_of_ble_eq_true rfl, Nat.le_of_ble_eq_true rfl⟩ (Nat.le_of_ble_eq_true rfl) ⟨by show k + 1  + 0 ≤ 601024; omega, by show n + 6  + 0 ≤ 7293034; omega⟩ ?_
  rintro _ t ⟨rfl, ht7, hdt⟩
  refine r_istore (lv' := [(0, .ref b), (1, Rf G 0), (2, Rf G 46), (3, Rf G 59), (4, I i), (5, I ((oCost (absC σ) (XX xs (i + 1)) (XX xs (i + 2))).1)), (6, I ((oCost (absC σ) (XX xs (i + 1)) (XX xs (i + 2))).2.1))]) dL_law_1255 (Nat.le_of_ble_eq_true rfl) rfl ?_
  refine r_aload_n dL_law_1257 rfl rfl ?_
  refine r_callV (tX8_thrown G t) dL_law_1258 svX8_thrown q663 sh46 (ci := 8) rfl rfl rfl ⟨Nat.le_of_ble_eq_true rfl, Nat.le_of_ble_eq_true rfl⟩ (Nat.le_of_ble_eq_true rfl) ⟨by show k + 1 + 0 + 0 ≤ 601024; omega, by show n + 6 + 0 + 0 ≤ 7293034; omega⟩ ?_
  rintro _ _ ⟨rfl, rfl⟩
  rw [ht7]
  refine r_iload dL_law_1261 rfl ?_
  refine r_icmp_eqE (tgt := 1268) dL_law_1263 (by decide) ?_
  refine r_iload dL_law_1268 rfl ?_
  refine r_if_ne (tgt := 1285) dL_law_1270 (by decide) (by omega) (fun hne => ?_) (fun hne => ?_)
  · skip
    refine r_goto (tgt := 1467) dL_law_1285 (by decide) ?_
    refine r_sub [0, 1, 2, 3, 4] rfl ?_
    exact K t (li_end hcs has hdt)
  · skip
    refine r_aload_n dL_law_1273 rfl rfl ?_
    refine r_iconst dL_law_1274 ?_
    have h59 : t 59 0 = bm ((oCost (absC σ) (XX xs (i + 1)) (XX xs (i + 2))).2.1) := by rw [hdt.2.2 59 (by decide)]; exact hans (by omega)
    refine r_lald dL_law_1275 sh59 (by omega) (hv := h59) ?_
    refine r_iload dL_law_1276 rfl ?_
    refine r_i2lb dL_law_1278 ?_
    refine r_lcmpE dL_law_1279 ?_
    refine r_if_eq (tgt := 1285) dL_law_1280 (by decide) (by omega) (fun _ => ?_) (fun h => absurd rfl h)
    refine r_goto (tgt := 1467) dL_law_1285 (by decide) ?_
    refine r_sub [0, 1, 2, 3, 4] rfl ?_
    exact K t (li_end hcs has hdt)
set_option maxHeartbeats 1000000 in
set_option maxRecDepth 100000 in
theorem law_22 {G : GT} {b L : Nat} {xs : Nat → Int32} {k n : Nat} {i : Int} {σ : Sg} (hL : 0 ≤ i ∧ i + 5 ≤ (L : Int) ∧ (L : Int) ≤ 2560) (hi : LI σ) (hk : k ≤ 2000) (hn : n ≤ 20000)
    (K : ∀ σ' : Sg, LI σ' → Rn G mL_law room_1 (EL G b L xs) ZL false SH (k + 1) (n + 6) 1467 [(0, .ref b), (1, Rf G 0), (2, Rf G 46), (3, Rf G 59), (4, I i)] [] σ') : Rn G mL_law room_1 (EL G b L xs) ZL false SH k n 1288 [(0, .ref b), (1, Rf G 0), (2, Rf G 46), (3, Rf G 59), (4, I i)] [] σ := by
  refine r_aload_n dL_law_1288 rfl rfl ?_
  refine r_aloadb_n dL_law_1289 rfl rfl ?_
  refine r_iload dL_law_1290 rfl ?_
  refine r_iconst dL_law_1292 ?_
  refine r_iadd dL_law_1293 ?_
  refine r_sld dL_law_1294 (by omega) ?_
  refine r_aloadb_n dL_law_1295 rfl rfl ?_
  refine r_iload dL_law_1296 rfl ?_
  refine r_iconst dL_law_1298 ?_
  refine r_iadd dL_law_1299 ?_
  refine r_sld dL_law_1300 (by omega) ?_
  refine r_aload_n dL_law_1301 rfl rfl ?_
  have hcb := oCut_b (A := absC σ) (p := XX xs (i + 1)) (c := XX xs (i + 2))
  refine r_callW (tL_cut G σ (XX xs (i + 1)) (XX xs (i + 2)) hi.1 ⟨XX_bd, XX_bd⟩) dL_law_1302 q622 q0 q623 ⟨by decide +kernel, by decide +kernel, pd_L_cut⟩ q621 rfl ⟨Nat.le_of_ble_eq_true rfl, Nat.le_of_ble_eq_true rfl⟩ (Nat.le_of_ble_eq_true rfl) ⟨by show k + 1 ≤ 601024; omega, by show n + 6 ≤ 7293034; omega⟩ ?_
  rintro _ s ⟨rfl, hans, hcs, has, hfs⟩
  have hms := im_c (fun a h1 h2 => hfs a h1 (by omega)) hi.2.1
  have ho : oCut (absM s) (XX xs (i + 1)) (XX xs (i + 2)) = (oCut (absC σ) (XX xs (i + 1)) (XX xs (i + 2))) := by rw [hms.2, hi.2.2]
  refine r_istore (lv' := [(0, .ref b), (1, Rf G 0), (2, Rf G 46), (3, Rf G 59), (4, I i), (5, I ((oCut (absC σ) (XX xs (i + 1)) (XX xs (i + 2))).1))]) dL_law_1305 (Nat.le_of_ble_eq_true rfl) rfl ?_
  refine r_aload_n dL_law_1307 rfl rfl ?_
  refine r_aloadb_n dL_law_1308 rfl rfl ?_
  refine r_iload dL_law_1309 rfl ?_
  refine r_iconst dL_law_1311 ?_
  refine r_iadd dL_law_1312 ?_
  refine r_sld dL_law_1313 (by omega) ?_
  refine r_aloadb_n dL_law_1314 rfl rfl ?_
  refine r_iload dL_law_1315 rfl ?_
  refine r_iconst dL_law_1317 ?_
  refine r_iadd dL_law_1318 ?_
  refine r_sld dL_law_1319 (by omega) ?_
  have hM := tX8_cut G s (XX xs (i + 1)) (XX xs (i + 2)) hms.1 ⟨XX_bd, XX_bd⟩
  rw [ho] at hM
  refine r_callV hM dL_law_1320 svX8_cut q875 sh46 (ci := 8) rfl rfl rfl ⟨Nat.le_of_ble_eq_true rfl, Nat.le_of_ble_eq_true rfl⟩ (Nat.le_of_ble_eq_true rfl) ⟨by show k + 1  + 0 ≤ 601024; omega, by show n + 6  + 0 ≤ 7293034; omega⟩ ?_
  rintro _ t ⟨rfl, ht7, hdt⟩
  refine r_istore (lv' := [(0, .ref b), (1, Rf G 0), (2, Rf G 46), (3, Rf G 59), (4, I i), (5, I ((oCut (absC σ) (XX xs (i + 1)) (XX xs (i + 2))).1)), (6, I ((oCut (absC σ) (XX xs (i + 1)) (XX xs (i + 2))).2.1))]) dL_law_1323 (Nat.le_of_ble_eq_true rfl) rfl ?_
  refine r_aload_n dL_law_1325 rfl rfl ?_
  refine r_callV (tX8_thrown G t) dL_law_1326 svX8_thrown q663 sh46 (ci := 8) rfl rfl rfl ⟨Nat.le_of_ble_eq_true rfl, Nat.le_of_ble_eq_true rfl⟩ (Nat.le_of_ble_eq_true rfl) ⟨by show k + 1 + 0 + 0 ≤ 601024; omega, by show n + 6 + 0 + 0 ≤ 7293034; omega⟩ ?_
  rintro _ _ ⟨rfl, rfl⟩
  rw [ht7]
  refine r_iload dL_law_1329 rfl ?_
  refine r_icmp_eqE (tgt := 1336) dL_law_1331 (by decide) ?_
  refine r_iload dL_law_1336 rfl ?_
  refine r_if_ne (tgt := 1353) dL_law_1338 (by decide) (by omega) (fun hne => ?_) (fun hne => ?_)
  · skip
    refine r_goto (tgt := 1467) dL_law_1353 (by decide) ?_
    refine r_sub [0, 1, 2, 3, 4] rfl ?_
    exact K t (li_end hcs has hdt)
  · skip
    refine r_aload_n dL_law_1341 rfl rfl ?_
    refine r_iconst dL_law_1342 ?_
    have h59 : t 59 0 = bm ((oCut (absC σ) (XX xs (i + 1)) (XX xs (i + 2))).2.1) := by rw [hdt.2.2 59 (by decide)]; exact hans (by omega)
    refine r_lald dL_law_1343 sh59 (by omega) (hv := h59) ?_
    refine r_iload dL_law_1344 rfl ?_
    refine r_i2lb dL_law_1346 ?_
    refine r_lcmpE dL_law_1347 ?_
    refine r_if_eq (tgt := 1353) dL_law_1348 (by decide) (by omega) (fun _ => ?_) (fun h => absurd rfl h)
    refine r_goto (tgt := 1467) dL_law_1353 (by decide) ?_
    refine r_sub [0, 1, 2, 3, 4] rfl ?_
    exact K t (li_end hcs has hdt)
set_option maxHeartbeats 1000000 in
set_option maxRecDepth 100000 in
theorem law_23 {G : GT} {b L : Nat} {xs : Nat → Int32} {k n : Nat} {i : Int} {σ : Sg} (hL : 0 ≤ i ∧ i + 5 ≤ (L : Int) ∧ (L : Int) ≤ 2560) (hi : LI σ) (hk : k ≤ 2000) (hn : n ≤ 20000)
    (K : ∀ σ' : Sg, LI σ' → Rn G mL_law room_1 (EL G b L xs) ZL false SH (k + 1) (n + 6) 1467 [(0, .ref b), (1, Rf G 0), (2, Rf G 46), (3, Rf G 59), (4, I i)] [] σ') : Rn G mL_law room_1 (EL G b L xs) ZL false SH k n 1356 [(0, .ref b), (1, Rf G 0), (2, Rf G 46), (3, Rf G 59), (4, I i)] [] σ := by
  refine r_aload_n dL_law_1356 rfl rfl ?_
  refine r_aloadb_n dL_law_1357 rfl rfl ?_
  refine r_iload dL_law_1358 rfl ?_
  refine r_iconst dL_law_1360 ?_
  refine r_iadd dL_law_1361 ?_
  refine r_sld dL_law_1362 (by omega) ?_
  refine r_aload_n dL_law_1363 rfl rfl ?_
  have hcb := oFewest_b (A := absC σ) (m := XX xs (i + 1))
  refine r_callW (tL_fewestParts G σ (XX xs (i + 1)) hi.1 XX_bd) dL_law_1364 q629 q0 q630 ⟨by decide +kernel, by decide +kernel, pd_L_fewestParts⟩ q628 rfl ⟨Nat.le_of_ble_eq_true rfl, Nat.le_of_ble_eq_true rfl⟩ (Nat.le_of_ble_eq_true rfl) ⟨by show k + 1 ≤ 601024; omega, by show n + 6 ≤ 7293034; omega⟩ ?_
  rintro _ s ⟨rfl, hans, hcs, has, hfs⟩
  have hms := im_c (fun a h1 h2 => hfs a h1 (by omega)) hi.2.1
  have ho : oFewest (absM s) (XX xs (i + 1)) = (oFewest (absC σ) (XX xs (i + 1))) := by rw [hms.2, hi.2.2]
  refine r_istore (lv' := [(0, .ref b), (1, Rf G 0), (2, Rf G 46), (3, Rf G 59), (4, I i), (5, I ((oFewest (absC σ) (XX xs (i + 1))).1))]) dL_law_1367 (Nat.le_of_ble_eq_true rfl) rfl ?_
  refine r_aload_n dL_law_1369 rfl rfl ?_
  refine r_aloadb_n dL_law_1370 rfl rfl ?_
  refine r_iload dL_law_1371 rfl ?_
  refine r_iconst dL_law_1373 ?_
  refine r_iadd dL_law_1374 ?_
  refine r_sld dL_law_1375 (by omega) ?_
  have hM := tX8_fewestParts G s (XX xs (i + 1)) hms.1 XX_bd
  rw [ho] at hM
  refine r_callV hM dL_law_1376 svX8_fewestParts q882 sh46 (ci := 8) rfl rfl rfl ⟨Nat.le_of_ble_eq_true rfl, Nat.le_of_ble_eq_true rfl⟩ (Nat.le_of_ble_eq_true rfl) ⟨by show k + 1  + 0 ≤ 601024; omega, by show n + 6  + 0 ≤ 7293034; omega⟩ ?_
  rintro _ t ⟨rfl, ht7, hdt⟩
  refine r_istore (lv' := [(0, .ref b), (1, Rf G 0), (2, Rf G 46), (3, Rf G 59), (4, I i), (5, I ((oFewest (absC σ) (XX xs (i + 1))).1)), (6, I ((oFewest (absC σ) (XX xs (i + 1))).2.1))]) dL_law_1379 (Nat.le_of_ble_eq_true rfl) rfl ?_
  refine r_aload_n dL_law_1381 rfl rfl ?_
  refine r_callV (tX8_thrown G t) dL_law_1382 svX8_thrown q663 sh46 (ci := 8) rfl rfl rfl ⟨Nat.le_of_ble_eq_true rfl, Nat.le_of_ble_eq_true rfl⟩ (Nat.le_of_ble_eq_true rfl) ⟨by show k + 1 + 0 + 0 ≤ 601024; omega, by show n + 6 + 0 + 0 ≤ 7293034; omega⟩ ?_
  rintro _ _ ⟨rfl, rfl⟩
  rw [ht7]
  refine r_iload dL_law_1385 rfl ?_
  refine r_icmp_eqE (tgt := 1392) dL_law_1387 (by decide) ?_
  refine r_iload dL_law_1392 rfl ?_
  refine r_if_ne (tgt := 1409) dL_law_1394 (by decide) (by omega) (fun hne => ?_) (fun hne => ?_)
  · skip
    refine r_goto (tgt := 1467) dL_law_1409 (by decide) ?_
    refine r_sub [0, 1, 2, 3, 4] rfl ?_
    exact K t (li_end hcs has hdt)
  · skip
    refine r_aload_n dL_law_1397 rfl rfl ?_
    refine r_iconst dL_law_1398 ?_
    have h59 : t 59 0 = bm ((oFewest (absC σ) (XX xs (i + 1))).2.1) := by rw [hdt.2.2 59 (by decide)]; exact hans (by omega)
    refine r_lald dL_law_1399 sh59 (by omega) (hv := h59) ?_
    refine r_iload dL_law_1400 rfl ?_
    refine r_i2lb dL_law_1402 ?_
    refine r_lcmpE dL_law_1403 ?_
    refine r_if_eq (tgt := 1409) dL_law_1404 (by decide) (by omega) (fun _ => ?_) (fun h => absurd rfl h)
    refine r_goto (tgt := 1467) dL_law_1409 (by decide) ?_
    refine r_sub [0, 1, 2, 3, 4] rfl ?_
    exact K t (li_end hcs has hdt)
set_option maxHeartbeats 1000000 in
set_option maxRecDepth 100000 in
theorem law_24 {G : GT} {b L : Nat} {xs : Nat → Int32} {k n : Nat} {i : Int} {σ : Sg} (hL : 0 ≤ i ∧ i + 5 ≤ (L : Int) ∧ (L : Int) ≤ 2560) (hi : LI σ) (hk : k ≤ 2000) (hn : n ≤ 20000)
    (K : ∀ σ' : Sg, LI σ' → Rn G mL_law room_1 (EL G b L xs) ZL false SH (k + 1) (n + 6) 1467 [(0, .ref b), (1, Rf G 0), (2, Rf G 46), (3, Rf G 59), (4, I i)] [] σ') : Rn G mL_law room_1 (EL G b L xs) ZL false SH k n 1412 [(0, .ref b), (1, Rf G 0), (2, Rf G 46), (3, Rf G 59), (4, I i)] [] σ := by
  refine r_aload_n dL_law_1412 rfl rfl ?_
  refine r_callV (tX7_halfShare G σ hi.1) dL_law_1413 svX7_halfShare q224 sh0 (ci := 7) rfl rfl rfl ⟨Nat.le_of_ble_eq_true rfl, Nat.le_of_ble_eq_true rfl⟩ (Nat.le_of_ble_eq_true rfl) ⟨by show k + 0 ≤ 601024; omega, by show n + 0 ≤ 7293034; omega⟩ ?_
  rintro _ s ⟨rfl, hq⟩
  have hcs := hq.ci hi.1
  have has := hq.abs
  have hms := im_c (fun a h1 h2 => hq.1 a (by omega)) hi.2.1
  have hsh : shF (stC σ 1) = shF (st0 (s 47)) := by rw [show stC σ 1 = st0 (s 47) from congrArg Prod.fst (hi.2.2.trans hms.2.symm)]
  refine r_dstore (lv' := [(0, .ref b), (1, Rf G 0), (2, Rf G 46), (3, Rf G 59), (4, I i), (5, Value.double (shF (stC σ 1)))]) dL_law_1416 (Nat.le_of_ble_eq_true rfl) rfl ?_
  refine r_aload_n dL_law_1418 rfl rfl ?_
  refine r_callV (tX8_halfShare G s hms.1) dL_law_1419 svX8_halfShare q890 sh46 (ci := 8) rfl rfl rfl ⟨Nat.le_of_ble_eq_true rfl, Nat.le_of_ble_eq_true rfl⟩ (Nat.le_of_ble_eq_true rfl) ⟨by show k + 0 + 0 ≤ 601024; omega, by show n + 0 + 0 ≤ 7293034; omega⟩ ?_
  rintro _ t ⟨rfl, ht7, hdt⟩
  rw [← hsh]
  refine r_dstore (lv' := [(0, .ref b), (1, Rf G 0), (2, Rf G 46), (3, Rf G 59), (4, I i), (5, Value.double (shF (stC σ 1))), (7, Value.double (shF (stC σ 1)))]) dL_law_1422 (Nat.le_of_ble_eq_true rfl) rfl ?_
  refine r_dload dL_law_1424 rfl ?_
  refine r_dload dL_law_1426 rfl ?_
  refine r_dcmp (z := 0) dL_law_1428 (by rw [hsh]; exact sh_nn hms.1) ?_
  refine r_if_eq (tgt := 1450) dL_law_1429 (by decide) (by omega) (fun _ => ?_) (fun h => absurd rfl h)
  refine r_goto (tgt := 1467) dL_law_1450 (by decide) ?_
  refine r_sub [0, 1, 2, 3, 4] rfl ?_
  refine r_widen (k2 := k + 1) (n2 := n + 6) (by omega) (by omega) ?_
  exact K t (li_end hcs has (by rw [← hms.2.trans hi.2.2.symm]; exact hdt))
set_option maxHeartbeats 1000000 in
set_option maxRecDepth 100000 in
theorem law_25 {G : GT} {b L : Nat} {xs : Nat → Int32} {k n : Nat} {i : Int} {σ : Sg} (hL : 0 ≤ i ∧ i + 5 ≤ (L : Int) ∧ (L : Int) ≤ 2560) (hi : LI σ) (hk : k ≤ 2000) (hn : n ≤ 20000)
    (K : ∀ σ' : Sg, LI σ' → Rn G mL_law room_1 (EL G b L xs) ZL false SH (k + 1) (n + 6) 1467 [(0, .ref b), (1, Rf G 0), (2, Rf G 46), (3, Rf G 59), (4, I i)] [] σ') : Rn G mL_law room_1 (EL G b L xs) ZL false SH k n 1453 [(0, .ref b), (1, Rf G 0), (2, Rf G 46), (3, Rf G 59), (4, I i)] [] σ := by
  refine r_aload_n dL_law_1453 rfl rfl ?_
  refine r_callV (tX7_digest G σ hi.1) dL_law_1454 svX7_digest q289 sh0 (ci := 7) rfl rfl rfl ⟨Nat.le_of_ble_eq_true rfl, Nat.le_of_ble_eq_true rfl⟩ (Nat.le_of_ble_eq_true rfl) ⟨by show k + 0 ≤ 601024; omega, by show n + 0 ≤ 7293034; omega⟩ ?_
  rintro _ s ⟨rfl, hq⟩
  have hcs := hq.ci hi.1
  have has := hq.abs
  have hms := im_c (fun a h1 h2 => hq.1 a (by omega)) hi.2.1
  refine r_aload_n dL_law_1457 rfl rfl ?_
  refine r_callV (tX8_digest G s hms.1) dL_law_1458 svX8_digest q897 sh46 (ci := 8) rfl rfl rfl ⟨Nat.le_of_ble_eq_true rfl, Nat.le_of_ble_eq_true rfl⟩ (Nat.le_of_ble_eq_true rfl) ⟨by show k + 0 + 0 ≤ 601024; omega, by show n + 0 + 0 ≤ 7293034; omega⟩ ?_
  rintro _ t ⟨rfl, ht7, hdt⟩
  rw [show absM s = absC σ from hms.2.trans hi.2.2.symm]
  refine r_lcmpE dL_law_1461 ?_
  refine r_if_eq (tgt := 1467) dL_law_1462 (by decide) (by omega) (fun _ => ?_) (fun h => absurd rfl h)
  refine r_widen (k2 := k + 1) (n2 := n + 6) (by omega) (by omega) ?_
  exact K t (li_end hcs has (by rw [← hms.2.trans hi.2.2.symm]; exact hdt))
