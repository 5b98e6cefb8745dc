
/-! the calls: code, answer, what is then -/
abbrev Op3 : Type := Int × Int × Ab
def svA (A : Ab) (x : St) : Ab := (x, pushH A.2.1 A.1, A.2.2)
abbrev setT (x : St) (f : Int → Int) : St := (x.1, x.2.1, x.2.2.1, x.2.2.2.1, x.2.2.2.2.1, x.2.2.2.2.2.1, f, x.2.2.2.2.2.2.2)
def fu (f : Int → Int) (i v : Int) : Int → Int := fun j => if j = i then v else f j
def oSize (A : Ab) (r c : Int) : Op3 := if (1 ≤ r ∧ r ≤ 10) ∧ (1 ≤ c ∧ c ≤ 10) then (0, 11 * A.1.1 + A.1.2.1, svA A (r, c, A.1.2.2)) else (1, 0, A)
def oPut (A : Ab) (r c v : Int) : Op3 := if (0 ≤ r ∧ r < A.1.1) ∧ (0 ≤ c ∧ c < A.1.2.1) then (if 0 ≤ v ∧ v ≤ 9999 then (0, nT A.1 (10 * r + c), svA A (setT A.1 (fu (nT A.1) (10 * r + c) v))) else (2, 0, A)) else (1, 0, A)
def far (a b c d i : Int) : Int := a + b * (i / 10) - (c + d * (i % 10))
def ptF (R C a b c d : Int) (T : Int → Int) : Int → Int := fun i => if (0 ≤ i ∧ i < 10 * R) ∧ i % 10 < C then mn (far a b c d i * far a b c d i) 9999 else T i
def oPoints (A : Ab) (a b c d : Int) : Op3 := if (0 ≤ a ∧ a ≤ 50) ∧ (0 ≤ b ∧ b ≤ 9) ∧ (0 ≤ c ∧ c ≤ 50) ∧ (0 ≤ d ∧ d ≤ 9) then
  (0, if Kp A.1.1 A.1.2.1 (ptF A.1.1 A.1.2.1 a b c d (nT A.1)) then 1 else 0, svA A (setT A.1 (ptF A.1.1 A.1.2.1 a b c d (nT A.1)))) else (1, 0, A)
def wF (x : St) : Int := wfst x.2.1 (nT x) (100 * (x.1 - 1)).toNat
def oMend (A : Ab) : Op3 := if wF A.1 = -1 then (0, -1, svA A A.1) else if 9999 < nT A.1 (10 * (wF A.1 / 100 + 1) + wF A.1 % 10) + 1 then (0, -1, svA A A.1) else
  (0, wF A.1 / 100, svA A (A.1.1, A.1.2.1, A.1.2.2.1, A.1.2.2.2.1, A.1.2.2.2.2.1, A.1.2.2.2.2.2.1 + 1, fu (nT A.1) (10 * (wF A.1 / 100 + 1) + wF A.1 / 10 % 10) (nT A.1 (10 * (wF A.1 / 100 + 1) + wF A.1 % 10) + 1), nW A.1))
def oFind (A : Ab) (w : Int) : Op3 := if 0 ≤ w ∧ w ≤ 2 then (if w = 0 ∨ Kp A.1.1 A.1.2.1 (nT A.1) then (0, LW (nT A.1) A.1.1 A.1.2.1 w, svA A (A.1.1, A.1.2.1, A.1.2.2.1, A.1.2.2.2.1 + LW (nT A.1) A.1.1 A.1.2.1 w, A.1.2.2.2.2.1 + 1, A.1.2.2.2.2.2)) else (2, 0, A)) else (1, 0, A)
def oWeigh (A : Ab) (v : Int) : Op3 := if 1 ≤ v ∧ v ≤ 99 then (if A.1.2.2.1 = 10 then (2, 0, A) else (0, A.1.2.2.1 + 1, svA A (A.1.1, A.1.2.1, A.1.2.2.1 + 1, A.1.2.2.2.1, A.1.2.2.2.2.1, A.1.2.2.2.2.2.1, nT A.1, fu (nW A.1) A.1.2.2.1 v))) else (1, 0, A)
def oUnweigh (A : Ab) : Op3 := if A.1.2.2.1 = 1 then (1, 0, A) else (0, nW A.1 (A.1.2.2.1 - 1), svA A (A.1.1, A.1.2.1, A.1.2.2.1 - 1, A.1.2.2.2.1, A.1.2.2.2.2.1, A.1.2.2.2.2.2.1, nT A.1, fu (nW A.1) (A.1.2.2.1 - 1) 0))
def setB (A : Ab) (l : List Int) : Ab := (A.1, A.2.1, A.2.2.1, A.2.2.2.1, l)
def oAppend (A : Ab) (c : Int) : Op3 := if 33 ≤ c ∧ c ≤ 126 then (if A.2.2.2.2.length = 60 then (2, 0, A) else (0, (A.2.2.2.2.length : Int) + 1, setB A (A.2.2.2.2 ++ [c]))) else (1, 0, A)
def oClear (A : Ab) : Op3 := (0, (A.2.2.2.2.length : Int), setB A [])
def oKeep (A : Ab) (s : Int) : Op3 := if s = 0 then (0, A.1.1, (A.1, A.2.1, some A.1, A.2.2.2)) else if s = 1 then (0, A.1.1, (A.1, A.2.1, A.2.2.1, some A.1, A.2.2.2.2)) else (1, 0, A)
def bkA (A : Ab) (o : Option St) : Op3 := match o with
  | none => (2, 0, A)
  | some x => (0, x.1, svA A x)
def oBack (A : Ab) (s : Int) : Op3 := if s = 0 then bkA A A.2.2.1 else if s = 1 then bkA A A.2.2.2.1 else (1, 0, A)
def oUndo (A : Ab) : Op3 := if A.2.1 = [] then (1, 0, A) else (0, (A.2.1.length : Int) - 1, (A.2.1.getLastD A.1, A.2.1.dropLast, A.2.2))
def oCell (A : Ab) (r c : Int) : Op3 := if (0 ≤ r ∧ r < A.1.1) ∧ (0 ≤ c ∧ c < A.1.2.1) then (0, nT A.1 (10 * r + c), A) else (1, 0, A)
def oPlace (A : Ab) (r w : Int) : Op3 := if 0 ≤ r ∧ r < A.1.1 then (if 0 ≤ w ∧ w ≤ 2 then (0, plW A.1 w r, A) else (2, 0, A)) else (1, 0, A)
def oLooks (A : Ab) (w : Int) : Op3 := if 0 ≤ w ∧ w ≤ 2 then (0, lkW A.1 w, A) else (1, 0, A)
def oBound (A : Ab) : Op3 := (0, (A.1.1 + A.1.2.1) * hvB A.1.1, A)
def oWitness (A : Ab) (k : Int) : Op3 := if 0 ≤ k ∧ k ≤ 3 then (0, tlF A.1 k, A) else (1, 0, A)
def oCount (A : Ab) (k : Int) : Op3 := if 0 ≤ k ∧ k ≤ 8 then (0, cnF A.1 (A.2.1.length : Int) k, A) else (1, 0, A)
def oWeight (A : Ab) (i : Int) : Op3 := if 0 ≤ i ∧ i < A.1.2.2.1 then (0, nW A.1 i, A) else (1, 0, A)
def oCost (A : Ab) (p k : Int) : Op3 := if (1 ≤ p ∧ p ≤ A.1.2.2.1) ∧ (0 ≤ k ∧ k ≤ 1) then (0, (dpC (nW A.1) p.toNat A.1.2.2.1).1, A) else (1, 0, A)
def oCut (A : Ab) (p c : Int) : Op3 := if (1 ≤ p ∧ p ≤ A.1.2.2.1) ∧ 0 ≤ c then (0, if p - 1 ≤ c then -1 else ctF (nW A.1) p A.1.2.2.1 (p - c - 1).toNat, A) else (1, 0, A)
def oFewest (A : Ab) (m : Int) : Op3 := if 1 ≤ m ∧ m ≤ 999999 then (0, fwF (fun q => (dpC (nW A.1) q.toNat A.1.2.2.1).1) m A.1.2.2.1.toNat, A) else (1, 0, A)
/-- a call's end in the class: it answers, or it throws -/
def OkP (σ : Sg) (o : Op3) : Option Value → Sg → Prop := fun rv sv => o.1 = 0 ∧ some (I o.2.1) = rv ∧ Done σ sv o.2.2
def ExP (σ : Sg) (o : Op3) (E1 E2 : String) : String → Sg → Prop := fun E sv => ((E = E1 ∧ o.1 = 1) ∨ (E = E2 ∧ o.1 = 2)) ∧ Done σ sv o.2.2
theorem aft_n {σ s τ : Sg} {x : St} (hc : CI σ) (hs : SaveP σ s) (hf : ∀ a, (a = 16 ∨ 18 ≤ a) → τ a = s a) (h15 : τ 15 0 = s 15 0) (hsc : ScC s → ScC τ) (hz : ∀ i, (i < 0 ∨ 100 ≤ i) → τ 2 i = 0) (hx : stC τ 1 = x) (hO : OkS x) : Done σ τ (svA (absC σ) x) := by
  subst hx
  exact aft hc hs hf h15 hsc hz hO
theorem OkS_now {σ : Sg} (hc : CI σ) : OkS (stC σ 1) := hc.2.2.2.2.2.1


def Nc (s τ : Sg) : Prop := (∀ a, (a = 16 ∨ 18 ≤ a) → τ a = s a) ∧ τ 15 0 = s 15 0 ∧ (ScC s → ScC τ)
theorem Nc.refl (s : Sg) : Nc s s := ⟨fun _ _ => rfl, rfl, id⟩
theorem Nc.u {s τ : Sg} {a : Nat} {i v : Int} (h : Nc s τ) (ha : a < 4) : Nc s (up τ a i v) :=
  ⟨fun b hb => by rw [up_ne (by omega)]; exact h.1 b hb, by rw [up_ne (by omega)]; exact h.2.1, fun q => by
    have := h.2.2 q
    unfold ScC at this ⊢
    rw [up_ne (by omega), up_ne (by omega), up_ne (by omega)]; exact this⟩
theorem Nc.q {s τ υ : Sg} (h : Nc s τ) (hq : Qs τ υ) : Nc s υ := ⟨fun a ha => (hq.1 a (by omega)).trans (h.1 a ha), hq.2.1.trans h.2.1, fun q => hq.2.2 (h.2.2 q)⟩
theorem aft_k {σ s τ : Sg} (hc : CI σ) (hs : SaveP σ s) (hn : Nc s τ) (x : St) (h0 : τ 1 0 = x.1) (h1 : τ 1 1 = x.2.1) (h2 : τ 1 2 = x.2.2.1) (h3 : τ 1 3 = x.2.2.2.1) (h4 : τ 1 4 = x.2.2.2.2.1) (h5 : τ 1 5 = x.2.2.2.2.2.1) (hT : τ 2 = nT x) (hW : rs x.2.2.1 (τ 3) = nW x) (hO : OkS x) : Done σ τ (svA (absC σ) x) := by
  have hx : stC τ 1 = x := by
    obtain ⟨x0, x1, x2, x3, x4, x5, x6, x7⟩ := x
    unfold stC
    show (τ 1 0, τ 1 1, τ 1 2, τ 1 3, τ 1 4, τ 1 5, rs 100 (τ 2), rs (τ 1 2) (τ 3)) = _
    rw [h0, h1, h2, h3, h4, h5, hT]
    have h6 : rs 100 x6 = x6 := rs_id hO.2.2.2.2.1
    have h7 : rs x2 (τ 3) = x7 := hW
    show (x0, x1, x2, x3, x4, x5, rs 100 x6, rs x2 (τ 3)) = _
    rw [h6, h7]
  refine aft_n hc hs hn.1 hn.2.1 hn.2.2 ?_ hx hO
  rw [hT]
  exact hO.2.2.2.2.1
theorem fu_up {σ : Sg} {a : Nat} {i v : Int} : up σ a i v a = fu (σ a) i v := by
  funext j
  rw [up_at]
  rfl
theorem OkS_T {x : St} (h : OkS x) {i v : Int} (hi : 0 ≤ i ∧ i < 100) (hv : 0 ≤ v ∧ v ≤ 9999) : (∀ j, 0 ≤ fu (nT x) i v j ∧ fu (nT x) i v j ≤ 9999) ∧ ∀ j, (j < 0 ∨ 100 ≤ j) → fu (nT x) i v j = 0 := by
  refine ⟨fun j => ?_, fun j hj => ?_⟩
  · unfold fu
    split
    · exact hv
    · exact h.2.2.2.1 j
  · unfold fu
    rw [if_neg (by omega)]
    exact h.2.2.2.2.1 j hj
theorem ptF_ok {x : St} (h : OkS x) {a b c d : Int} : (∀ j, 0 ≤ ptF x.1 x.2.1 a b c d (nT x) j ∧ ptF x.1 x.2.1 a b c d (nT x) j ≤ 9999) ∧ ∀ j, (j < 0 ∨ 100 ≤ j) → ptF x.1 x.2.1 a b c d (nT x) j = 0 := by
  refine ⟨fun j => ?_, fun j hj => ?_⟩
  · unfold ptF
    split
    · have h1 : 0 ≤ far a b c d j * far a b c d j := by
        rcases Int.le_total 0 (far a b c d j) with q | q
        · exact Int.mul_nonneg q q
        · exact Int.mul_nonneg_of_nonpos_of_nonpos q q
      unfold mn
      split <;> omega
    · exact h.2.2.2.1 j
  · unfold ptF
    have := h.1
    rw [if_neg (by omega)]
    exact h.2.2.2.2.1 j hj

set_option maxHeartbeats 1000000 in
set_option maxRecDepth 100000 in
theorem tX7_size (G : GT) (σ : Sg) (r c : Int) (hci : CI σ) (hrg : (-2147483648 ≤ r ∧ r ≤ 2147483647) ∧ (-2147483648 ≤ c ∧ c ≤ 2147483647)) : CtX G mX7_size 6 SH [Rf G 0, I r, I c] σ (OkP σ (oSize (absC σ) r c)) (ExP σ (oSize (absC σ) r c) xE1 xE3) := by
  obtain ⟨P, hP⟩ : ∃ P : Option Value → Sg → Prop, P = (OkP σ (oSize (absC σ) r c)) := ⟨_, rfl⟩
  obtain ⟨X, hX⟩ : ∃ X : String → Sg → Prop, X = (ExP σ (oSize (absC σ) r c) xE1 xE3) := ⟨_, rfl⟩
  rw [← hP, ← hX]
  refine ctx_of (lv := [(0, Rf G 0), (1, I r), (2, I c)]) (by decide +kernel) (Nat.le_of_ble_eq_true rfl) rfl ?_
  have hci0 := hci.us
  obtain ⟨hR, hC, hn, hT, hwt, hp6, h11, h13, hh, hl, hc⟩ := hci0
  refine r_iload_n dX7_size_0 rfl rfl ?_
  refine r_iconst dX7_size_1 ?_
  refine r_bipush dX7_size_2 rfl ?_
  refine r_callS (tX7_isFromTo G σ r 1 10 (by omega)) dX7_size_4 svX7_isFromTo q393 rfl ⟨Nat.le_of_ble_eq_true rfl, Nat.le_of_ble_eq_true rfl⟩ (Nat.le_of_ble_eq_true rfl) ⟨Nat.le_of_ble_eq_true rfl, Nat.le_of_ble_eq_true rfl⟩ ?_
  rintro _ _ ⟨⟨hq1, rfl⟩ | ⟨hq1, rfl⟩, rfl⟩
  · skip
    refine r_if_eq (tgt := 20) dX7_size_7 (by decide) (by omega) (fun hb2 => ?_) (fun hb2 => ?_)
    · skip
      exact absurd hb2 (by omega)
    · skip
      refine r_iload_n dX7_size_10 rfl rfl ?_
      refine r_iconst dX7_size_11 ?_
      refine r_bipush dX7_size_12 rfl ?_
      refine r_callS (tX7_isFromTo G σ c 1 10 (by omega)) dX7_size_14 svX7_isFromTo q393 rfl ⟨Nat.le_of_ble_eq_true rfl, Nat.le_of_ble_eq_true rfl⟩ (Nat.le_of_ble_eq_true rfl) ⟨Nat.le_of_ble_eq_true rfl, Nat.le_of_ble_eq_true rfl⟩ ?_
      rintro _ _ ⟨⟨hq3, rfl⟩ | ⟨hq3, rfl⟩, rfl⟩
      · skip
        refine r_if_ne (tgt := 30) dX7_size_17 (by decide) (by omega) (fun hb4 => ?_) (fun hb4 => ?_)
        · skip
          refine r_aload_n dX7_size_30 rfl rfl ?_
          refine r_getR (b := 18) dX7_size_31 sh0 rfl (ci := 7) (j := 5) rfl (Nat.le_of_ble_eq_true rfl) ixX7 q138 rfl ?_
          refine r_aload_n dX7_size_34 rfl rfl ?_
          refine r_getR (b := 1) dX7_size_35 sh0 rfl (ci := 7) (j := 0) rfl (Nat.le_of_ble_eq_true rfl) ixX7 q133 rfl ?_
          refine r_callV (tX2_save G σ  (hci.us.2.2.2.2.2.2.2.2.1) (hci.us.2.2.1.2)) dX7_size_38 svX2_save q145 sh18 (ci := 2) rfl rfl rfl ⟨Nat.le_of_ble_eq_true rfl, Nat.le_of_ble_eq_true rfl⟩ (Nat.le_of_ble_eq_true rfl) ⟨Nat.le_of_ble_eq_true rfl, Nat.le_of_ble_eq_true rfl⟩ ?_
          rintro _ s ⟨rfl, hs⟩
          refine r_aload_n dX7_size_41 rfl rfl ?_
          refine r_getR (b := 1) dX7_size_42 sh0 rfl (ci := 7) (j := 0) rfl (Nat.le_of_ble_eq_true rfl) ixX7 q133 rfl ?_
          refine r_callV (tX5_sizeCode G s ) dX7_size_45 svX5_sizeCode q430 sh1 (ci := 5) rfl rfl rfl ⟨Nat.le_of_ble_eq_true rfl, Nat.le_of_ble_eq_true rfl⟩ (Nat.le_of_ble_eq_true rfl) ⟨Nat.le_of_ble_eq_true rfl, Nat.le_of_ble_eq_true rfl⟩ ?_
          rintro _ _ ⟨rfl, rfl⟩
          rw [show s 1 0 = σ 1 0 from congrFun (hs.1 1 (by decide) (by decide)) 0]
          rw [show s 1 1 = σ 1 1 from congrFun (hs.1 1 (by decide) (by decide)) 1]
          refine r_istore_n (lv' := [(0, Rf G 0), (1, I r), (2, I c), (3, I (11 * (σ 1 0) + (σ 1 1)))]) dX7_size_48 rfl (Nat.le_of_ble_eq_true rfl) rfl ?_
          refine r_aload_n dX7_size_49 rfl rfl ?_
          refine r_getR (b := 1) dX7_size_50 sh0 rfl (ci := 7) (j := 0) rfl (Nat.le_of_ble_eq_true rfl) ixX7 q133 rfl ?_
          refine r_iload_n dX7_size_53 rfl rfl ?_
          refine r_putI (z := 0) tyX5 dX7_size_54 sh1 rfl (ci := 5) (j := 0) rfl (Nat.le_of_ble_eq_true rfl) rfl tyX5_ok nmX5 ixX5 q37 rfl rfl rfl ?_
          refine r_aload_n dX7_size_57 rfl rfl ?_
          refine r_getR (b := 1) dX7_size_58 sh0 rfl (ci := 7) (j := 0) rfl (Nat.le_of_ble_eq_true rfl) ixX7 q133 rfl ?_
          refine r_iload_n dX7_size_61 rfl rfl ?_
          refine r_putI (z := 1) tyX5 dX7_size_62 sh1 rfl (ci := 5) (j := 1) rfl (Nat.le_of_ble_eq_true rfl) rfl tyX5_ok nmX5 ixX5 q41 rfl rfl rfl ?_
          refine r_iload_n dX7_size_65 rfl rfl ?_
          exact r_xl (r_widen (Nat.le_of_ble_eq_true rfl) (Nat.le_of_ble_eq_true rfl) (r_iret dX7_size_66 rfl (by rw [hP]; exact by unfold oSize; rw [if_pos (by omega)]; exact ⟨rfl, rfl, aft_k hci hs (Nc.u (Nc.u (Nc.refl s) (by decide)) (by decide)) ((r, c, (absC σ).1.2.2)) ((up_nj (by decide)).trans (up_eq)) up_eq ((up_nj (by decide)).trans ((up_nj (by decide)).trans (congrFun (hs.1 1 (by decide) (by decide)) 2))) ((up_nj (by decide)).trans ((up_nj (by decide)).trans (congrFun (hs.1 1 (by decide) (by decide)) 3))) ((up_nj (by decide)).trans ((up_nj (by decide)).trans (congrFun (hs.1 1 (by decide) (by decide)) 4))) ((up_nj (by decide)).trans ((up_nj (by decide)).trans (congrFun (hs.1 1 (by decide) (by decide)) 5))) (by (repeat rw [up_ne (by decide)]); rw [hs.1 2 (by decide) (by omega)]; exact hci.T.symm) (by (repeat rw [up_ne (by decide)]); rw [hs.1 3 (by decide) (by omega)]; rfl) ⟨by omega, by omega, (OkS_now hci).2.2⟩⟩)))
        · skip
          exact absurd hb4 (by omega)
      · skip
        refine r_if_ne (tgt := 30) dX7_size_17 (by decide) (by omega) (fun hb5 => ?_) (fun hb5 => ?_)
        · skip
          exact absurd hb5 (by omega)
        · skip
          exact r_throw xg1 xn1 rfl q394 q13 stl69 xf1 xo1 dX7_size_20 dX7_size_23 dX7_size_24 dX7_size_26 dX7_size_29 (Nat.le_of_ble_eq_true rfl) (Nat.le_of_ble_eq_true rfl) (Nat.le_of_ble_eq_true rfl) (Nat.le_of_ble_eq_true rfl) (by rw [hX]; exact by unfold oSize; first | (rw [if_neg (by omega)]; exact ⟨Or.inl ⟨rfl, rfl⟩, ((Qs.refl σ)).done hci⟩) | (rw [if_pos (by omega), if_pos (by omega)]; exact ⟨Or.inr ⟨rfl, rfl⟩, ((Qs.refl σ)).done hci⟩))
  · skip
    refine r_if_eq (tgt := 20) dX7_size_7 (by decide) (by omega) (fun hb6 => ?_) (fun hb6 => ?_)
    · skip
      exact r_throw xg1 xn1 rfl q394 q13 stl69 xf1 xo1 dX7_size_20 dX7_size_23 dX7_size_24 dX7_size_26 dX7_size_29 (Nat.le_of_ble_eq_true rfl) (Nat.le_of_ble_eq_true rfl) (Nat.le_of_ble_eq_true rfl) (Nat.le_of_ble_eq_true rfl) (by rw [hX]; exact by unfold oSize; first | (rw [if_neg (by omega)]; exact ⟨Or.inl ⟨rfl, rfl⟩, ((Qs.refl σ)).done hci⟩) | (rw [if_pos (by omega), if_pos (by omega)]; exact ⟨Or.inr ⟨rfl, rfl⟩, ((Qs.refl σ)).done hci⟩))
    · skip
      exact absurd hb6 (by omega)
