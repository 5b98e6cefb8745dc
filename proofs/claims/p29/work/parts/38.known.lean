variable {Ω : List Ob}
theorem svL_part : SS mL_part 2 := ⟨q370, q0, q371, ⟨by decide +kernel, by decide +kernel, by decide +kernel⟩⟩
theorem svL_drawn : SS mL_drawn 2 := ⟨q374, q0, q375, ⟨by decide +kernel, by decide +kernel, by decide +kernel⟩⟩
theorem svL_seen : SS mL_seen 1 := ⟨q530, q0, q531, ⟨by decide +kernel, by decide +kernel, by decide +kernel⟩⟩
theorem svL_far : SS mL_far 3 := ⟨q546, q0, q547, ⟨by decide +kernel, by decide +kernel, by decide +kernel⟩⟩
theorem svL_refusesOne : SS mL_refusesOne 2 := ⟨q543, q0, q544, ⟨by decide +kernel, by decide +kernel, by decide +kernel⟩⟩
theorem svL_refused : SS mL_refused 1 := ⟨q540, q0, q541, ⟨by decide +kernel, by decide +kernel, by decide +kernel⟩⟩
theorem svL_small : SS mL_small 0 := ⟨q551, q0, q552, ⟨by decide +kernel, by decide +kernel, by decide +kernel⟩⟩
theorem svL_weights : SS mL_weights 0 := ⟨q565, q0, q566, ⟨by decide +kernel, by decide +kernel, by decide +kernel⟩⟩
theorem svL_types : SS mL_types 2 := ⟨q582, q0, q583, ⟨by decide +kernel, by decide +kernel, by decide +kernel⟩⟩
theorem svL_isError : SS mL_isError 4 := ⟨q575, q0, q576, ⟨by decide +kernel, by decide +kernel, by decide +kernel⟩⟩
theorem svL_texts : SS mL_texts 0 := ⟨q571, q0, q572, ⟨by decide +kernel, by decide +kernel, by decide +kernel⟩⟩
theorem qm91 : Cond.constant RL 91 (Int32.ofInt (-2147483648)) ∈ TBG := by have h := q548; rwa [show ((-2147483648) : Int32) = Int32.ofInt (-2147483648) from by decide] at h

theorem mk3 {o : Op3} {z : Int} {A : Ab} (h : o.1 = 0 ∧ o.2.1 = z) (hA : o.2.2 = A) : o = (0, z, A) := by
  obtain ⟨a, b, c⟩ := o
  obtain ⟨h1, h2⟩ := h
  subst hA
  exact Prod.ext h1 (Prod.ext h2 rfl)
theorem Done.tk {σ s t : Sg} {A B : Ab} (h : Done σ s A) (h2 : Done s t B) : Done σ t B := ⟨h2.1, h2.2.1, fun a ha => (h2.2.2 a ha).trans (h.2.2 a ha)⟩
theorem Done.rf {σ : Sg} {A : Ab} (h : CI σ) (ha : absC σ = A) : Done σ σ A := ⟨h, ha, fun _ _ => rfl⟩
theorem Done.ok {σ s : Sg} {A : Ab} (h : Done σ s A) : OkA A := by rw [← h.2.1]; exact h.1.2.2.2.2.2
def YP (σ : Sg) (v : Value) (A : Ab) : Option Value → Sg → Prop := fun rv sv => some v = rv ∧ Done σ sv A
theorem uX_clearBuffer (G : GT) (σ : Sg) {A : Ab} (hci : CI σ) (ha : absC σ = A) : Ct G mX7_clearBuffer 2 0 0 false (SH Ω) (SH Ω) [Rf G 0] σ (OkP σ (oClear A)) := by subst ha; exact tX7_clearBuffer G σ hci
theorem uX_bound (G : GT) (σ : Sg) {A : Ab} (hci : CI σ) (ha : absC σ = A) : Ct G mX7_bound 1 0 0 false (SH Ω) (SH Ω) [Rf G 0] σ (OkP σ (oBound A)) := by subst ha; exact tX7_boundA G σ hci
theorem uX_mend (G : GT) (σ : Sg) {A : Ab} (hci : CI σ) (ha : absC σ = A) : Ct G mX7_mend 4 0 0 false (SH Ω) (SH Ω) [Rf G 0] σ (OkP σ (oMend A)) := by subst ha; exact tX7_mend G σ hci
theorem uX_firstError (G : GT) (σ : Sg) {A : Ab} (hci : CI σ) (ha : absC σ = A) : Ct G mX7_firstError 5 0 0 false (SH Ω) (SH Ω) [Rf G 0] σ (OkP σ (oFirst A)) := by subst ha; exact tX7_firstError G σ hci
section KROWS
variable {G : GT} {M : MI} {R : Room} {E : ET} {Z : ZT} {ex : Bool} {sh : List Ob} {k n : Nat} {pc : Nat} {lv lv' : List (Nat × Value)} {st : List Value} {σ σ0 : Sg} {A B : Ab} {z : Int}
theorem r_kX {M2 : MI} {d2 b ci idx N : Nat} {fks : List FK} {C : String} {T : u_T} {As rest st0 : List Value} {o : Op3} {E1 E2 : String} (hD : Done σ0 σ A) (hE : ∀ l s args c, E l s args c → l.stackTraces = false ∧ TV G s)
    (hC : CtX G M2 d2 sh (Rf G b :: As) σ (OkP σ o) (ExP σ o E1 E2)) (he : o = (0, z, B)) (hdg : decode M.2.1 pc = .ok (.invokevirtual idx, 3)) (sv : SV M2 As.length) (hlink : Cond.methodLink M.1.cls idx M2.1 ∈ TBG)
    (hs : sh[b]? = some (.inl (ci, fks))) (hc : vwCl[ci]? = some (C, T, N)) (hcl : C = M2.1.cls) (hst : st0 = As.reverse ++ Rf G b :: rest) (hR : d2 + 1 ≤ R.frames ∧ 8 + (M2.2.2.1 + 11) + 40 * d2 ≤ R.locals) (hcat : (rest.map fun v => v.category).sum ≤ 8) (hf : k + 1 ≤ R.cells ∧ n + 6 ≤ R.slots)
    (kk : ∀ s : Sg, Done σ0 s B → Rn G M R E Z false sh (k + 1) (n + 6) (pc + 3) lv (I z :: rest) s) : Rn G M R E Z false sh k n pc lv st0 σ := by
  subst he
  refine r_callXn hE hC (fun X τ h => ?_) hdg sv hlink hs hc hcl hst hR hcat hf (fun r s h => ?_)
  · rcases h.1 with ⟨-, h⟩ | ⟨-, h⟩
    · exact absurd (show (0 : Int) = 1 from h) (by decide)
    · exact absurd (show (0 : Int) = 2 from h) (by decide)
  · obtain ⟨-, h2, h3⟩ := h
    subst h2
    exact kk s (hD.tk h3)
theorem r_kC {M2 : MI} {hh : HH} {d2 idx : Nat} {As rest st0 : List Value} {o : Op3} {c1 c2 : Int} (hD : Done σ0 σ A) (hE : ∀ l s args c, E l s args c → l.stackTraces = false ∧ TV G s) (hC : CtW G M2 hh d2 sh As σ (CkP σ o c1 c2)) (hv : cvl o c1 c2 = z) (hA : o.2.2 = B) (hdg : decode M.2.1 pc = .ok (.invokestatic idx, 3))
    (w1 : Cond.static M2.1 ∈ TBG) (w2 : Cond.initialized M2.1.cls ∈ TBG) (w3 : Cond.codeWith M2.1 M2.2.1 M2.2.2.1 M2.2.2.2 hh ∈ TBG) (hy : M2.1.cls ≠ "java/lang/invoke/MethodHandle" ∧ M2.1.cls ≠ "java/lang/invoke/VarHandle" ∧ (parseMethodDescriptor M2.1.desc).map (fun d => d.parameters.length) = some As.length)
    (hlink : Cond.methodLink M.1.cls idx M2.1 ∈ TBG) (hst : st0 = As.reverse ++ rest) (hR : d2 + 1 ≤ R.frames ∧ 8 + (M2.2.2.1 + 11) + 40 * d2 ≤ R.locals) (hcat : (rest.map fun v => v.category).sum ≤ 8) (hf : k + 1 ≤ R.cells ∧ n + 6 ≤ R.slots)
    (kk : ∀ s : Sg, Done σ0 s B → Rn G M R E Z false sh (k + 1) (n + 6) (pc + 3) lv (I z :: rest) s) : Rn G M R E Z false sh k n pc lv st0 σ := by
  refine r_callW hE hC hdg w1 w2 w3 hy hlink hst hR hcat hf (fun r s h => ?_)
  obtain ⟨h2, h3⟩ := h
  subst h2 hv hA
  exact kk s (hD.tk h3)
theorem r_kO {M2 : MI} {d2 b ci idx N : Nat} {fks : List FK} {C : String} {T : u_T} {As rest st0 : List Value} {o : Op3} (hD : Done σ0 σ A)
    (hC : Ct G M2 d2 0 0 ex sh sh (Rf G b :: As) σ (OkP σ o)) (he : o = (0, z, B)) (hdg : decode M.2.1 pc = .ok (.invokevirtual idx, 3)) (sv : SV M2 As.length) (hlink : Cond.methodLink M.1.cls idx M2.1 ∈ TBG)
    (hs : sh[b]? = some (.inl (ci, fks))) (hc : vwCl[ci]? = some (C, T, N)) (hcl : C = M2.1.cls) (hst : st0 = As.reverse ++ Rf G b :: rest) (hR : d2 + 1 ≤ R.frames ∧ 8 + (M2.2.2.1 + 11) + 40 * d2 ≤ R.locals) (hcat : (rest.map fun v => v.category).sum ≤ 8) (hf : k + 0 ≤ R.cells ∧ n + 0 ≤ R.slots)
    (kk : ∀ s : Sg, Done σ0 s B → Rn G M R E Z ex sh k n (pc + 3) lv (I z :: rest) s) : Rn G M R E Z ex sh k n pc lv st0 σ := by
  subst he
  refine r_callV hC hdg sv hlink hs hc hcl hst hR hcat hf (fun r s h => ?_)
  obtain ⟨-, h2, h3⟩ := h
  subst h2
  exact kk s (hD.tk h3)
theorem r_kH {M2 : MI} {d2 b ci idx N : Nat} {fks : List FK} {C : String} {T : u_T} {As rest st0 : List Value} {x : UInt64} (hD : Done σ0 σ A)
    (hC : Ct G M2 d2 0 0 ex sh sh (Rf G b :: As) σ (fun rv sv => some (.double (shF (stC σ 1))) = rv ∧ Qs σ sv)) (he : shF A.1 = x) (hdg : decode M.2.1 pc = .ok (.invokevirtual idx, 3)) (sv : SV M2 As.length) (hlink : Cond.methodLink M.1.cls idx M2.1 ∈ TBG)
    (hs : sh[b]? = some (.inl (ci, fks))) (hc : vwCl[ci]? = some (C, T, N)) (hcl : C = M2.1.cls) (hst : st0 = As.reverse ++ Rf G b :: rest) (hR : d2 + 1 ≤ R.frames ∧ 8 + (M2.2.2.1 + 11) + 40 * d2 ≤ R.locals) (hcat : (rest.map fun v => v.category).sum ≤ 8) (hf : k + 0 ≤ R.cells ∧ n + 0 ≤ R.slots)
    (kk : ∀ s : Sg, Done σ0 s A → Rn G M R E Z ex sh k n (pc + 3) lv (.double x :: rest) s) : Rn G M R E Z ex sh k n pc lv st0 σ := by
  subst he
  refine r_callV hC hdg sv hlink hs hc hcl hst hR hcat hf (fun r s h => ?_)
  obtain ⟨h2, h3⟩ := h
  subst h2
  have h4 := kk s (hD.tk (by have h5 := h3.done hD.1; rw [hD.2.1] at h5; exact h5))
  rw [← hD.2.1] at h4
  exact h4
theorem r_kY {M2 : MI} {d2 mc ms idx : Nat} {As rest st0 : List Value} {v : Value} (hD : Done σ0 σ A) (hE : ∀ l s args c, E l s args c → l.stackTraces = false ∧ TV G s)
    (hC : CtY G M2 d2 mc ms ex ex sh sh As σ (YP σ v B)) (hdg : decode M.2.1 pc = .ok (.invokestatic idx, 3)) (sv : SS M2 As.length) (hlink : Cond.methodLink M.1.cls idx M2.1 ∈ TBG)
    (hst : st0 = As.reverse ++ rest) (hR : d2 + 1 ≤ R.frames ∧ 8 + (M2.2.2.1 + 11) + 40 * d2 ≤ R.locals) (hcat : (rest.map fun v => v.category).sum ≤ 8) (hf : k + mc ≤ R.cells ∧ n + ms ≤ R.slots)
    (kk : ∀ s : Sg, Done σ0 s B → Rn G M R E Z ex sh (k + mc) (n + ms) (pc + 3) lv (v :: rest) s) : Rn G M R E Z ex sh k n pc lv st0 σ := by
  refine r_callY hE hC hdg sv hlink hst hR hcat hf (fun r s h => ?_)
  obtain ⟨h2, h3⟩ := h
  subst h2
  exact kk s (hD.tk h3)
theorem r_dcmpE {x y : UInt64} {o : CmpOp} (hdg : decode M.2.1 pc = .ok (.dcmp o, 1)) (hz : Op.cmpValue (FP.dcmp x y) o = Int32.ofInt 0) (kk : Rn G M R E Z ex sh k n (pc + 1) lv (I 0 :: st) σ) : Rn G M R E Z ex sh k n pc lv (.double y :: .double x :: st) σ := r_dcmp hdg hz kk
end KROWS

set_option maxHeartbeats 1000000 in
set_option maxRecDepth 100000 in
theorem tL_far (G : GT) (σ : Sg) (k lo hi : Int) (h : (0 ≤ k ∧ k ≤ 3) ∧ (-1000000 ≤ lo ∧ lo ≤ 1000000) ∧ (-1000000 ≤ hi ∧ hi ≤ 1000000)) : Ct G mL_far 1 0 0 false (SH Ω) (SH Ω) [I k, I lo, I hi] σ (fun rv sv => (∃ f : Int, some (I f) = rv ∧ (f < lo ∨ hi < f) ∧ -2147483648 ≤ f ∧ f ≤ 2147483647) ∧ σ = sv) := by
  obtain ⟨P, hP⟩ : ∃ P : Option Value → Sg → Prop, P = (fun rv sv => (∃ f : Int, some (I f) = rv ∧ (f < lo ∨ hi < f) ∧ -2147483648 ≤ f ∧ f ≤ 2147483647) ∧ σ = sv) := ⟨_, rfl⟩
  rw [← hP]
  refine ct_of (lv := [(0, I k), (1, I lo), (2, I hi)]) (by decide +kernel) (Nat.le_of_ble_eq_true rfl) rfl ?_
  refine r_iload_n dL_far_0 rfl rfl ?_
  refine r_if_ne (tgt := 10) dL_far_1 (by decide) (by omega) (fun hb1 => ?_) (fun hb1 => ?_)
  · skip
    refine r_iload_n dL_far_10 rfl rfl ?_
    refine r_iconst dL_far_11 ?_
    refine r_icmp_ne (tgt := 21) dL_far_12 (by decide) (by omega) (fun hb2 => ?_) (fun hb2 => ?_)
    · skip
      refine r_iload_n dL_far_21 rfl rfl ?_
      refine r_iconst dL_far_22 ?_
      refine r_icmp_ne (tgt := 31) dL_far_23 (by decide) (by omega) (fun hb3 => ?_) (fun hb3 => ?_)
      · skip
        refine r_ldc (z := 2147483647) dL_far_31 q372 ?_
        exact r_iret dL_far_33 rfl (by rw [hP]; exact ⟨⟨_, rfl, by omega, by omega, by omega⟩, rfl⟩)
      · skip
        refine r_ldc (z := (-2147483648)) dL_far_26 qm91 ?_
        refine r_goto (tgt := 33) dL_far_28 (by decide) ?_
        exact r_iret dL_far_33 rfl (by rw [hP]; exact ⟨⟨_, rfl, by omega, by omega, by omega⟩, rfl⟩)
    · skip
      refine r_iload_n dL_far_15 rfl rfl ?_
      refine r_iconst dL_far_16 ?_
      refine r_iadd dL_far_17 ?_
      refine r_goto (tgt := 33) dL_far_18 (by decide) ?_
      exact r_iret dL_far_33 rfl (by rw [hP]; exact ⟨⟨_, rfl, by omega, by omega, by omega⟩, rfl⟩)
  · skip
    refine r_iload_n dL_far_4 rfl rfl ?_
    refine r_iconst dL_far_5 ?_
    refine r_isub dL_far_6 ?_
    refine r_goto (tgt := 33) dL_far_7 (by decide) ?_
    exact r_iret dL_far_33 rfl (by rw [hP]; exact ⟨⟨_, rfl, by omega, by omega, by omega⟩, rfl⟩)
