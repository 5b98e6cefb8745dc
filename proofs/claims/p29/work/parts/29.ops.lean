variable {Ω : List Ob}

/-! the calls: code, answer, what is then -/
abbrev Op3 : Type := Int × Int × Ab
def svA (A : Ab) (x : St) : Ab := (x, pushH A.2.1 A.1, A.2.2)
abbrev setT (x : St) (f : Int → Int) : St := (x.1, x.2.1, x.2.2.1, x.2.2.2.1, x.2.2.2.2.1, x.2.2.2.2.2.1, f, x.2.2.2.2.2.2.2)
def fu (f : Int → Int) (i v : Int) : Int → Int := fun j => if j = i then v else f j
def oSize (A : Ab) (r c : Int) : Op3 := if (1 ≤ r ∧ r ≤ 10) ∧ (1 ≤ c ∧ c ≤ 10) then (0, 11 * A.1.1 + A.1.2.1, svA A (r, c, A.1.2.2)) else (1, 0, A)
def oPut (A : Ab) (r c v : Int) : Op3 := if (0 ≤ r ∧ r < A.1.1) ∧ (0 ≤ c ∧ c < A.1.2.1) then (if 0 ≤ v ∧ v ≤ 9999 then (0, nT A.1 (10 * r + c), svA A (setT A.1 (fu (nT A.1) (10 * r + c) v))) else (2, 0, A)) else (1, 0, A)
def far (a b c d i : Int) : Int := a + b * (i / 10) - (c + d * (i % 10))
def ptF (R C a b c d : Int) (T : Int → Int) : Int → Int := fun i => if (0 ≤ i ∧ i < 10 * R) ∧ i % 10 < C then mn (far a b c d i * far a b c d i) 9999 else T i
def oPoints (A : Ab) (a b c d : Int) : Op3 := if (0 ≤ a ∧ a ≤ 50) ∧ (0 ≤ b ∧ b ≤ 9) ∧ (0 ≤ c ∧ c ≤ 50) ∧ (0 ≤ d ∧ d ≤ 9) then
  (0, if Kp A.1.1 A.1.2.1 (ptF A.1.1 A.1.2.1 a b c d (nT A.1)) then 1 else 0, svA A (setT A.1 (ptF A.1.1 A.1.2.1 a b c d (nT A.1)))) else (1, 0, A)
def wF (x : St) : Int := wfst x.2.1 (nT x) (100 * (x.1 - 1)).toNat
def oMend (A : Ab) : Op3 := if wF A.1 = -1 then (0, -1, svA A A.1) else if 9999 < nT A.1 (10 * (wF A.1 / 100 + 1) + wF A.1 % 10) + 1 then (0, -1, svA A A.1) else
  (0, wF A.1 / 100, svA A (A.1.1, A.1.2.1, A.1.2.2.1, A.1.2.2.2.1, A.1.2.2.2.2.1, A.1.2.2.2.2.2.1 + 1, fu (nT A.1) (10 * (wF A.1 / 100 + 1) + wF A.1 / 10 % 10) (nT A.1 (10 * (wF A.1 / 100 + 1) + wF A.1 % 10) + 1), nW A.1))
def oFind (A : Ab) (w : Int) : Op3 := if 0 ≤ w ∧ w ≤ 2 then (if w = 0 ∨ Kp A.1.1 A.1.2.1 (nT A.1) then (0, LW (nT A.1) A.1.1 A.1.2.1 w, svA A (A.1.1, A.1.2.1, A.1.2.2.1, A.1.2.2.2.1 + LW (nT A.1) A.1.1 A.1.2.1 w, A.1.2.2.2.2.1 + 1, A.1.2.2.2.2.2)) else (2, 0, A)) else (1, 0, A)
def oWeigh (A : Ab) (v : Int) : Op3 := if 1 ≤ v ∧ v ≤ 99 then (if A.1.2.2.1 = 10 then (2, 0, A) else (0, A.1.2.2.1 + 1, svA A (A.1.1, A.1.2.1, A.1.2.2.1 + 1, A.1.2.2.2.1, A.1.2.2.2.2.1, A.1.2.2.2.2.2.1, nT A.1, fu (nW A.1) A.1.2.2.1 v))) else (1, 0, A)
def oUnweigh (A : Ab) : Op3 := if A.1.2.2.1 = 1 then (1, 0, A) else (0, nW A.1 (A.1.2.2.1 - 1), svA A (A.1.1, A.1.2.1, A.1.2.2.1 - 1, A.1.2.2.2.1, A.1.2.2.2.2.1, A.1.2.2.2.2.2.1, nT A.1, fu (nW A.1) (A.1.2.2.1 - 1) 0))
def setB (A : Ab) (l : List Int) : Ab := (A.1, A.2.1, A.2.2.1, A.2.2.2.1, l)
def oAppend (A : Ab) (c : Int) : Op3 := if 33 ≤ c ∧ c ≤ 126 then (if A.2.2.2.2.length = 60 then (2, 0, A) else (0, (A.2.2.2.2.length : Int) + 1, setB A (A.2.2.2.2 ++ [c]))) else (1, 0, A)
def oClear (A : Ab) : Op3 := (0, (A.2.2.2.2.length : Int), setB A [])
def oKeep (A : Ab) (s : Int) : Op3 := if s = 0 then (0, A.1.1, (A.1, A.2.1, some A.1, A.2.2.2)) else if s = 1 then (0, A.1.1, (A.1, A.2.1, A.2.2.1, some A.1, A.2.2.2.2)) else (1, 0, A)
def bkA (A : Ab) (o : Option St) : Op3 := match o with
  | none => (2, 0, A)
  | some x => (0, x.1, svA A x)
def oBack (A : Ab) (s : Int) : Op3 := if s = 0 then bkA A A.2.2.1 else if s = 1 then bkA A A.2.2.2.1 else (1, 0, A)
def oUndo (A : Ab) : Op3 := if A.2.1 = [] then (1, 0, A) else (0, (A.2.1.length : Int) - 1, (A.2.1.getLastD A.1, A.2.1.dropLast, A.2.2))
def oCell (A : Ab) (r c : Int) : Op3 := if (0 ≤ r ∧ r < A.1.1) ∧ (0 ≤ c ∧ c < A.1.2.1) then (0, nT A.1 (10 * r + c), A) else (1, 0, A)
def oPlace (A : Ab) (r w : Int) : Op3 := if 0 ≤ r ∧ r < A.1.1 then (if 0 ≤ w ∧ w ≤ 2 then (0, plW A.1 w r, A) else (2, 0, A)) else (1, 0, A)
def oLooks (A : Ab) (w : Int) : Op3 := if 0 ≤ w ∧ w ≤ 2 then (0, lkW A.1 w, A) else (1, 0, A)
def oBound (A : Ab) : Op3 := (0, (A.1.1 + A.1.2.1) * hvB A.1.1, A)
def oWitness (A : Ab) (k : Int) : Op3 := if 0 ≤ k ∧ k ≤ 3 then (0, tlF A.1 k, A) else (1, 0, A)
def oCount (A : Ab) (k : Int) : Op3 := if 0 ≤ k ∧ k ≤ 8 then (0, cnF A.1 (A.2.1.length : Int) k, A) else (1, 0, A)
def oWeight (A : Ab) (i : Int) : Op3 := if 0 ≤ i ∧ i < A.1.2.2.1 then (0, nW A.1 i, A) else (1, 0, A)
def oCost (A : Ab) (p k : Int) : Op3 := if (1 ≤ p ∧ p ≤ A.1.2.2.1) ∧ (0 ≤ k ∧ k ≤ 1) then (0, (dpC (nW A.1) p.toNat A.1.2.2.1).1, A) else (1, 0, A)
def oCut (A : Ab) (p c : Int) : Op3 := if (1 ≤ p ∧ p ≤ A.1.2.2.1) ∧ 0 ≤ c then (0, if p - 1 ≤ c then -1 else ctF (nW A.1) p A.1.2.2.1 (p - c - 1).toNat, A) else (1, 0, A)
def oFewest (A : Ab) (m : Int) : Op3 := if 1 ≤ m ∧ m ≤ 999999 then (0, fwF (fun q => (dpC (nW A.1) q.toNat A.1.2.2.1).1) m A.1.2.2.1.toNat, A) else (1, 0, A)
/-- a call's end in the class: it answers, or it throws -/
def OkP (σ : Sg) (o : Op3) : Option Value → Sg → Prop := fun rv sv => o.1 = 0 ∧ some (I o.2.1) = rv ∧ Done σ sv o.2.2
def ExP (σ : Sg) (o : Op3) (E1 E2 : String) : String → Sg → Prop := fun E sv => ((E = E1 ∧ o.1 = 1) ∨ (E = E2 ∧ o.1 = 2)) ∧ Done σ sv o.2.2
theorem aft_n {σ s τ : Sg} {x : St} (hc : CI σ) (hs : SaveP σ s) (hf : ∀ a, (a = 16 ∨ 18 ≤ a) → τ a = s a) (h15 : τ 15 0 = s 15 0) (hsc : ScC s → ScC τ) (hz : ∀ i, (i < 0 ∨ 100 ≤ i) → τ 2 i = 0) (hx : stC τ 1 = x) (hO : OkS x) : Done σ τ (svA (absC σ) x) := by
  subst hx
  exact aft hc hs hf h15 hsc hz hO
theorem OkS_now {σ : Sg} (hc : CI σ) : OkS (stC σ 1) := hc.2.2.2.2.2.1


def Nc (s τ : Sg) : Prop := (∀ a, (a = 16 ∨ 18 ≤ a) → τ a = s a) ∧ τ 15 0 = s 15 0 ∧ (ScC s → ScC τ)
theorem Nc.refl (s : Sg) : Nc s s := ⟨fun _ _ => rfl, rfl, id⟩
theorem Nc.u {s τ : Sg} {a : Nat} {i v : Int} (h : Nc s τ) (ha : a < 4) : Nc s (up τ a i v) :=
  ⟨fun b hb => by rw [up_ne (by omega)]; exact h.1 b hb, by rw [up_ne (by omega)]; exact h.2.1, fun q => by
    have := h.2.2 q
    unfold ScC at this ⊢
    rw [up_ne (by omega), up_ne (by omega), up_ne (by omega)]; exact this⟩
theorem Nc.q {s τ υ : Sg} (h : Nc s τ) (hq : Qs τ υ) : Nc s υ := ⟨fun a ha => (hq.1 a (by omega)).trans (h.1 a ha), hq.2.1.trans h.2.1, fun q => hq.2.2 (h.2.2 q)⟩
theorem Done.of_q {σ ρ τ : Sg} {A : Ab} (hq : Qs σ ρ) (h : Done ρ τ A) : Done σ τ A := ⟨h.1, h.2.1, fun a ha => (h.2.2 a ha).trans (hq.1 a (by omega))⟩
theorem aft_k {σ ρ s τ : Sg} (hc : CI σ) (hq : Qs σ ρ) (hs : SaveP ρ s) (hn : Nc s τ) (x : St) (h0 : τ 1 0 = x.1) (h1 : τ 1 1 = x.2.1) (h2 : τ 1 2 = x.2.2.1) (h3 : τ 1 3 = x.2.2.2.1) (h4 : τ 1 4 = x.2.2.2.2.1) (h5 : τ 1 5 = x.2.2.2.2.2.1) (hT : τ 2 = nT x) (hW : rs x.2.2.1 (τ 3) = nW x) (hO : OkS x) : Done σ τ (svA (absC σ) x) := by
  have hx : stC τ 1 = x := by
    obtain ⟨x0, x1, x2, x3, x4, x5, x6, x7⟩ := x
    unfold stC
    show (τ 1 0, τ 1 1, τ 1 2, τ 1 3, τ 1 4, τ 1 5, rs 100 (τ 2), rs (τ 1 2) (τ 3)) = _
    rw [h0, h1, h2, h3, h4, h5, hT]
    have h6 : rs 100 x6 = x6 := rs_id hO.2.2.2.2.1
    have h7 : rs x2 (τ 3) = x7 := hW
    show (x0, x1, x2, x3, x4, x5, rs 100 x6, rs x2 (τ 3)) = _
    rw [h6, h7]
  rw [← hq.abs]
  refine Done.of_q hq (aft_n (hq.ci hc) hs hn.1 hn.2.1 hn.2.2 ?_ hx hO)
  rw [hT]
  exact hO.2.2.2.2.1
theorem fu_up {σ : Sg} {a : Nat} {i v : Int} : up σ a i v a = fu (σ a) i v := by
  funext j
  rw [up_at]
  rfl
theorem OkS_T {x : St} (h : OkS x) {i v : Int} (hi : 0 ≤ i ∧ i < 100) (hv : 0 ≤ v ∧ v ≤ 9999) : (∀ j, 0 ≤ fu (nT x) i v j ∧ fu (nT x) i v j ≤ 9999) ∧ ∀ j, (j < 0 ∨ 100 ≤ j) → fu (nT x) i v j = 0 := by
  refine ⟨fun j => ?_, fun j hj => ?_⟩
  · unfold fu
    split
    · exact hv
    · exact h.2.2.2.1 j
  · unfold fu
    rw [if_neg (by omega)]
    exact h.2.2.2.2.1 j hj
theorem ptF_ok {x : St} (h : OkS x) {a b c d : Int} : (∀ j, 0 ≤ ptF x.1 x.2.1 a b c d (nT x) j ∧ ptF x.1 x.2.1 a b c d (nT x) j ≤ 9999) ∧ ∀ j, (j < 0 ∨ 100 ≤ j) → ptF x.1 x.2.1 a b c d (nT x) j = 0 := by
  refine ⟨fun j => ?_, fun j hj => ?_⟩
  · unfold ptF
    split
    · have h1 : 0 ≤ far a b c d j * far a b c d j := by
        rcases Int.le_total 0 (far a b c d j) with q | q
        · exact Int.mul_nonneg q q
        · exact Int.mul_nonneg_of_nonpos_of_nonpos q q
      unfold mn
      split <;> omega
    · exact h.2.2.2.1 j
  · unfold ptF
    have := h.1
    rw [if_neg (by omega)]
    exact h.2.2.2.2.1 j hj

theorem oSize_e {σ : Sg} {r c : Int} : oSize (absC σ) r c = if (1 ≤ r ∧ r ≤ 10) ∧ (1 ≤ c ∧ c ≤ 10) then (0, 11 * (σ 1 0) + (σ 1 1), svA (absC σ) (r, c, (stC σ 1).2.2)) else (1, 0, (absC σ)) := rfl
theorem oPut_e {σ : Sg} {r c v : Int} : oPut (absC σ) r c v = if (0 ≤ r ∧ r < (σ 1 0)) ∧ (0 ≤ c ∧ c < (σ 1 1)) then (if 0 ≤ v ∧ v ≤ 9999 then (0, nT (stC σ 1) (10 * r + c), svA (absC σ) (setT (stC σ 1) (fu (nT (stC σ 1)) (10 * r + c) v))) else (2, 0, (absC σ))) else (1, 0, (absC σ)) := rfl
theorem oPoints_e {σ : Sg} {a b c d : Int} : oPoints (absC σ) a b c d = if (0 ≤ a ∧ a ≤ 50) ∧ (0 ≤ b ∧ b ≤ 9) ∧ (0 ≤ c ∧ c ≤ 50) ∧ (0 ≤ d ∧ d ≤ 9) then
  (0, if Kp (σ 1 0) (σ 1 1) (ptF (σ 1 0) (σ 1 1) a b c d (nT (stC σ 1))) then 1 else 0, svA (absC σ) (setT (stC σ 1) (ptF (σ 1 0) (σ 1 1) a b c d (nT (stC σ 1))))) else (1, 0, (absC σ)) := rfl
theorem oMend_e {σ : Sg} : oMend (absC σ) = if wF (stC σ 1) = -1 then (0, -1, svA (absC σ) (stC σ 1)) else if 9999 < nT (stC σ 1) (10 * (wF (stC σ 1) / 100 + 1) + wF (stC σ 1) % 10) + 1 then (0, -1, svA (absC σ) (stC σ 1)) else
  (0, wF (stC σ 1) / 100, svA (absC σ) ((σ 1 0), (σ 1 1), (σ 1 2), (σ 1 3), (σ 1 4), (σ 1 5) + 1, fu (nT (stC σ 1)) (10 * (wF (stC σ 1) / 100 + 1) + wF (stC σ 1) / 10 % 10) (nT (stC σ 1) (10 * (wF (stC σ 1) / 100 + 1) + wF (stC σ 1) % 10) + 1), nW (stC σ 1))) := rfl
theorem oFind_e {σ : Sg} {w : Int} : oFind (absC σ) w = if 0 ≤ w ∧ w ≤ 2 then (if w = 0 ∨ Kp (σ 1 0) (σ 1 1) (nT (stC σ 1)) then (0, LW (nT (stC σ 1)) (σ 1 0) (σ 1 1) w, svA (absC σ) ((σ 1 0), (σ 1 1), (σ 1 2), (σ 1 3) + LW (nT (stC σ 1)) (σ 1 0) (σ 1 1) w, (σ 1 4) + 1, (stC σ 1).2.2.2.2.2)) else (2, 0, (absC σ))) else (1, 0, (absC σ)) := rfl
theorem oWeigh_e {σ : Sg} {v : Int} : oWeigh (absC σ) v = if 1 ≤ v ∧ v ≤ 99 then (if (σ 1 2) = 10 then (2, 0, (absC σ)) else (0, (σ 1 2) + 1, svA (absC σ) ((σ 1 0), (σ 1 1), (σ 1 2) + 1, (σ 1 3), (σ 1 4), (σ 1 5), nT (stC σ 1), fu (nW (stC σ 1)) (σ 1 2) v))) else (1, 0, (absC σ)) := rfl
theorem oUnweigh_e {σ : Sg} : oUnweigh (absC σ) = if (σ 1 2) = 1 then (1, 0, (absC σ)) else (0, nW (stC σ 1) ((σ 1 2) - 1), svA (absC σ) ((σ 1 0), (σ 1 1), (σ 1 2) - 1, (σ 1 3), (σ 1 4), (σ 1 5), nT (stC σ 1), fu (nW (stC σ 1)) ((σ 1 2) - 1) 0)) := rfl
theorem oAppend_e {σ : Sg} {c : Int} : oAppend (absC σ) c = if 33 ≤ c ∧ c ≤ 126 then (if (absC σ).2.2.2.2.length = 60 then (2, 0, (absC σ)) else (0, ((absC σ).2.2.2.2.length : Int) + 1, setB (absC σ) ((absC σ).2.2.2.2 ++ [c]))) else (1, 0, (absC σ)) := rfl
theorem oClear_e {σ : Sg} : oClear (absC σ) = (0, ((absC σ).2.2.2.2.length : Int), setB (absC σ) []) := rfl
theorem oKeep_e {σ : Sg} {s : Int} : oKeep (absC σ) s = if s = 0 then (0, (σ 1 0), ((stC σ 1), (absC σ).2.1, some (stC σ 1), (absC σ).2.2.2)) else if s = 1 then (0, (σ 1 0), ((stC σ 1), (absC σ).2.1, (absC σ).2.2.1, some (stC σ 1), (absC σ).2.2.2.2)) else (1, 0, (absC σ)) := rfl
theorem oBack_e {σ : Sg} {s : Int} : oBack (absC σ) s = if s = 0 then bkA (absC σ) (absC σ).2.2.1 else if s = 1 then bkA (absC σ) (absC σ).2.2.2.1 else (1, 0, (absC σ)) := rfl
theorem oUndo_e {σ : Sg} : oUndo (absC σ) = if (absC σ).2.1 = [] then (1, 0, (absC σ)) else (0, ((absC σ).2.1.length : Int) - 1, ((absC σ).2.1.getLastD (stC σ 1), (absC σ).2.1.dropLast, (absC σ).2.2)) := rfl
theorem oCell_e {σ : Sg} {r c : Int} : oCell (absC σ) r c = if (0 ≤ r ∧ r < (σ 1 0)) ∧ (0 ≤ c ∧ c < (σ 1 1)) then (0, nT (stC σ 1) (10 * r + c), (absC σ)) else (1, 0, (absC σ)) := rfl
theorem oPlace_e {σ : Sg} {r w : Int} : oPlace (absC σ) r w = if 0 ≤ r ∧ r < (σ 1 0) then (if 0 ≤ w ∧ w ≤ 2 then (0, plW (stC σ 1) w r, (absC σ)) else (2, 0, (absC σ))) else (1, 0, (absC σ)) := rfl
theorem oLooks_e {σ : Sg} {w : Int} : oLooks (absC σ) w = if 0 ≤ w ∧ w ≤ 2 then (0, lkW (stC σ 1) w, (absC σ)) else (1, 0, (absC σ)) := rfl
theorem oBound_e {σ : Sg} : oBound (absC σ) = (0, ((σ 1 0) + (σ 1 1)) * hvB (σ 1 0), (absC σ)) := rfl
theorem oWitness_e {σ : Sg} {k : Int} : oWitness (absC σ) k = if 0 ≤ k ∧ k ≤ 3 then (0, tlF (stC σ 1) k, (absC σ)) else (1, 0, (absC σ)) := rfl
theorem oCount_e {σ : Sg} {k : Int} : oCount (absC σ) k = if 0 ≤ k ∧ k ≤ 8 then (0, cnF (stC σ 1) ((absC σ).2.1.length : Int) k, (absC σ)) else (1, 0, (absC σ)) := rfl
theorem oWeight_e {σ : Sg} {i : Int} : oWeight (absC σ) i = if 0 ≤ i ∧ i < (σ 1 2) then (0, nW (stC σ 1) i, (absC σ)) else (1, 0, (absC σ)) := rfl
theorem oCost_e {σ : Sg} {p k : Int} : oCost (absC σ) p k = if (1 ≤ p ∧ p ≤ (σ 1 2)) ∧ (0 ≤ k ∧ k ≤ 1) then (0, (dpC (nW (stC σ 1)) p.toNat (σ 1 2)).1, (absC σ)) else (1, 0, (absC σ)) := rfl
theorem oCut_e {σ : Sg} {p c : Int} : oCut (absC σ) p c = if (1 ≤ p ∧ p ≤ (σ 1 2)) ∧ 0 ≤ c then (0, if p - 1 ≤ c then -1 else ctF (nW (stC σ 1)) p (σ 1 2) (p - c - 1).toNat, (absC σ)) else (1, 0, (absC σ)) := rfl
theorem oFewest_e {σ : Sg} {m : Int} : oFewest (absC σ) m = if 1 ≤ m ∧ m ≤ 999999 then (0, fwF (fun q => (dpC (nW (stC σ 1)) q.toNat (σ 1 2)).1) m (σ 1 2).toNat, (absC σ)) else (1, 0, (absC σ)) := rfl
set_option maxHeartbeats 1000000 in
set_option maxRecDepth 100000 in
theorem tX7_size (G : GT) (σ : Sg) (r c : Int) (hci : CI σ) (hrg : (-2147483648 ≤ r ∧ r ≤ 2147483647) ∧ (-2147483648 ≤ c ∧ c ≤ 2147483647)) : CtX G mX7_size 6 (SH Ω) [Rf G 0, I r, I c] σ (OkP σ (oSize (absC σ) r c)) (ExP σ (oSize (absC σ) r c) xE1 xE3) := by
  obtain ⟨P, hP⟩ : ∃ P : Option Value → Sg → Prop, P = (OkP σ (oSize (absC σ) r c)) := ⟨_, rfl⟩
  obtain ⟨X, hX⟩ : ∃ X : String → Sg → Prop, X = (ExP σ (oSize (absC σ) r c) xE1 xE3) := ⟨_, rfl⟩
  rw [← hP, ← hX]
  refine ctx_of (lv := [(0, Rf G 0), (1, I r), (2, I c)]) (by decide +kernel) (Nat.le_of_ble_eq_true rfl) rfl ?_
  have hci0 := hci.us
  obtain ⟨hR, hC, hn, hT, hwt, hp6, h11, h13, hh, hl, hc⟩ := hci0
  have hT9 : nT (stC σ 1) = σ 2 := hci.T
  have hO9 := OkS_now hci
  refine r_iload_n dX7_size_0 rfl rfl ?_
  refine r_iconst dX7_size_1 ?_
  refine r_bipush dX7_size_2 rfl ?_
  refine r_callS (tX7_isFromTo G σ r 1 10 (by omega)) dX7_size_4 svX7_isFromTo q186 rfl ⟨Nat.le_of_ble_eq_true rfl, Nat.le_of_ble_eq_true rfl⟩ (Nat.le_of_ble_eq_true rfl) ⟨Nat.le_of_ble_eq_true rfl, Nat.le_of_ble_eq_true rfl⟩ ?_
  rintro _ _ ⟨⟨hq1, rfl⟩ | ⟨hq1, rfl⟩, rfl⟩
  · skip
    refine r_if_eq (tgt := 20) dX7_size_7 (by decide) (by omega) (fun hb2 => ?_) (fun hb2 => ?_)
    · skip
      exact absurd hb2 (by omega)
    · skip
      refine r_iload_n dX7_size_10 rfl rfl ?_
      refine r_iconst dX7_size_11 ?_
      refine r_bipush dX7_size_12 rfl ?_
      refine r_callS (tX7_isFromTo G σ c 1 10 (by omega)) dX7_size_14 svX7_isFromTo q186 rfl ⟨Nat.le_of_ble_eq_true rfl, Nat.le_of_ble_eq_true rfl⟩ (Nat.le_of_ble_eq_true rfl) ⟨Nat.le_of_ble_eq_true rfl, Nat.le_of_ble_eq_true rfl⟩ ?_
      rintro _ _ ⟨⟨hq3, rfl⟩ | ⟨hq3, rfl⟩, rfl⟩
      · skip
        refine r_if_ne (tgt := 30) dX7_size_17 (by decide) (by omega) (fun hb4 => ?_) (fun hb4 => ?_)
        · skip
          refine r_aload_n dX7_size_30 rfl rfl ?_
          refine r_getR (b := 18) dX7_size_31 sh0 rfl (ci := 7) (j := 5) rfl (Nat.le_of_ble_eq_true rfl) ixX7 q136 rfl ?_
          refine r_aload_n dX7_size_34 rfl rfl ?_
          refine r_getR (b := 1) dX7_size_35 sh0 rfl (ci := 7) (j := 0) rfl (Nat.le_of_ble_eq_true rfl) ixX7 q131 rfl ?_
          refine r_callV (tX2_save G σ  (hci.us.2.2.2.2.2.2.2.2.1) (hci.us.2.2.1.2)) dX7_size_38 svX2_save q195 sh18 (ci := 2) rfl rfl rfl ⟨Nat.le_of_ble_eq_true rfl, Nat.le_of_ble_eq_true rfl⟩ (Nat.le_of_ble_eq_true rfl) ⟨Nat.le_of_ble_eq_true rfl, Nat.le_of_ble_eq_true rfl⟩ ?_
          rintro _ s ⟨rfl, hs⟩
          refine r_aload_n dX7_size_41 rfl rfl ?_
          refine r_getR (b := 1) dX7_size_42 sh0 rfl (ci := 7) (j := 0) rfl (Nat.le_of_ble_eq_true rfl) ixX7 q131 rfl ?_
          refine r_callV (tX5_sizeCode G s ) dX7_size_45 svX5_sizeCode q387 sh1 (ci := 5) rfl rfl rfl ⟨Nat.le_of_ble_eq_true rfl, Nat.le_of_ble_eq_true rfl⟩ (Nat.le_of_ble_eq_true rfl) ⟨Nat.le_of_ble_eq_true rfl, Nat.le_of_ble_eq_true rfl⟩ ?_
          rintro _ _ ⟨rfl, rfl⟩
          rw [show s 1 0 = σ 1 0 from congrFun (hs.1 1 (by decide) (by decide)) 0]
          rw [show s 1 1 = σ 1 1 from congrFun (hs.1 1 (by decide) (by decide)) 1]
          refine r_istore_n (lv' := [(0, Rf G 0), (1, I r), (2, I c), (3, I (11 * (σ 1 0) + (σ 1 1)))]) dX7_size_48 rfl (Nat.le_of_ble_eq_true rfl) rfl ?_
          refine r_aload_n dX7_size_49 rfl rfl ?_
          refine r_getR (b := 1) dX7_size_50 sh0 rfl (ci := 7) (j := 0) rfl (Nat.le_of_ble_eq_true rfl) ixX7 q131 rfl ?_
          refine r_iload_n dX7_size_53 rfl rfl ?_
          refine r_putI (z := 0) tyX5 dX7_size_54 sh1 rfl (ci := 5) (j := 0) rfl (Nat.le_of_ble_eq_true rfl) rfl tyX5_ok nmX5 ixX5 q35 rfl rfl rfl ?_
          refine r_aload_n dX7_size_57 rfl rfl ?_
          refine r_getR (b := 1) dX7_size_58 sh0 rfl (ci := 7) (j := 0) rfl (Nat.le_of_ble_eq_true rfl) ixX7 q131 rfl ?_
          refine r_iload_n dX7_size_61 rfl rfl ?_
          refine r_putI (z := 1) tyX5 dX7_size_62 sh1 rfl (ci := 5) (j := 1) rfl (Nat.le_of_ble_eq_true rfl) rfl tyX5_ok nmX5 ixX5 q39 rfl rfl rfl ?_
          refine r_iload_n dX7_size_65 rfl rfl ?_
          exact r_xl (r_widen (Nat.le_of_ble_eq_true rfl) (Nat.le_of_ble_eq_true rfl) (r_iret dX7_size_66 rfl (by rw [hP]; exact by rw [oSize_e, if_pos (by omega)]; exact ⟨rfl, rfl, aft_k hci (Qs.refl σ) hs (Nc.u (Nc.u (Nc.refl s) (by decide)) (by decide)) ((r, c, (absC σ).1.2.2)) ((up_nj (by decide)).trans (up_eq)) up_eq ((up_nj (by decide)).trans ((up_nj (by decide)).trans (congrFun (hs.1 1 (by decide) (by decide)) 2))) ((up_nj (by decide)).trans ((up_nj (by decide)).trans (congrFun (hs.1 1 (by decide) (by decide)) 3))) ((up_nj (by decide)).trans ((up_nj (by decide)).trans (congrFun (hs.1 1 (by decide) (by decide)) 4))) ((up_nj (by decide)).trans ((up_nj (by decide)).trans (congrFun (hs.1 1 (by decide) (by decide)) 5))) ((((up_ne (by decide)).trans ((up_ne (by decide)).trans (hs.1 2 (by decide) (by decide))))).trans hci.T.symm) (by rw [((up_ne (by decide)).trans ((up_ne (by decide)).trans (hs.1 3 (by decide) (by decide))))]; rfl) ⟨by omega, by omega, hO9.2.2⟩⟩)))
        · skip
          exact absurd hb4 (by omega)
      · skip
        refine r_if_ne (tgt := 30) dX7_size_17 (by decide) (by omega) (fun hb5 => ?_) (fun hb5 => ?_)
        · skip
          exact absurd hb5 (by omega)
        · skip
          exact r_throw xg1 xn1 rfl q187 q12 stl69 xf1 xo1 dX7_size_20 dX7_size_23 dX7_size_24 dX7_size_26 dX7_size_29 (Nat.le_of_ble_eq_true rfl) (Nat.le_of_ble_eq_true rfl) (Nat.le_of_ble_eq_true rfl) (Nat.le_of_ble_eq_true rfl) (by rw [hX]; exact by rw [oSize_e]; first | (rw [if_neg (by omega)]; exact ⟨Or.inl ⟨rfl, rfl⟩, ((Qs.refl σ)).done hci⟩) | (rw [if_pos (by omega), if_neg (by omega)]; exact ⟨Or.inr ⟨rfl, rfl⟩, ((Qs.refl σ)).done hci⟩) | (rw [if_pos (by omega), if_pos (by omega)]; exact ⟨Or.inr ⟨rfl, rfl⟩, ((Qs.refl σ)).done hci⟩))
  · skip
    refine r_if_eq (tgt := 20) dX7_size_7 (by decide) (by omega) (fun hb6 => ?_) (fun hb6 => ?_)
    · skip
      exact r_throw xg1 xn1 rfl q187 q12 stl69 xf1 xo1 dX7_size_20 dX7_size_23 dX7_size_24 dX7_size_26 dX7_size_29 (Nat.le_of_ble_eq_true rfl) (Nat.le_of_ble_eq_true rfl) (Nat.le_of_ble_eq_true rfl) (Nat.le_of_ble_eq_true rfl) (by rw [hX]; exact by rw [oSize_e]; first | (rw [if_neg (by omega)]; exact ⟨Or.inl ⟨rfl, rfl⟩, ((Qs.refl σ)).done hci⟩) | (rw [if_pos (by omega), if_neg (by omega)]; exact ⟨Or.inr ⟨rfl, rfl⟩, ((Qs.refl σ)).done hci⟩) | (rw [if_pos (by omega), if_pos (by omega)]; exact ⟨Or.inr ⟨rfl, rfl⟩, ((Qs.refl σ)).done hci⟩))
    · skip
      exact absurd hb6 (by omega)
set_option maxHeartbeats 1000000 in
set_option maxRecDepth 100000 in
theorem tX7_put (G : GT) (σ : Sg) (r c v : Int) (hci : CI σ) (hrg : (-2147483648 ≤ r ∧ r ≤ 2147483647) ∧ (-2147483648 ≤ c ∧ c ≤ 2147483647) ∧ (-2147483648 ≤ v ∧ v ≤ 2147483647)) : CtX G mX7_put 6 (SH Ω) [Rf G 0, I r, I c, I v] σ (OkP σ (oPut (absC σ) r c v)) (ExP σ (oPut (absC σ) r c v) xE2 xE1) := by
  obtain ⟨P, hP⟩ : ∃ P : Option Value → Sg → Prop, P = (OkP σ (oPut (absC σ) r c v)) := ⟨_, rfl⟩
  obtain ⟨X, hX⟩ : ∃ X : String → Sg → Prop, X = (ExP σ (oPut (absC σ) r c v) xE2 xE1) := ⟨_, rfl⟩
  rw [← hP, ← hX]
  refine ctx_of (lv := [(0, Rf G 0), (1, I r), (2, I c), (3, I v)]) (by decide +kernel) (Nat.le_of_ble_eq_true rfl) rfl ?_
  have hci0 := hci.us
  obtain ⟨hR, hC, hn, hT, hwt, hp6, h11, h13, hh, hl, hc⟩ := hci0
  have hT9 : nT (stC σ 1) = σ 2 := hci.T
  have hO9 := OkS_now hci
  refine r_aload_n dX7_put_0 rfl rfl ?_
  refine r_getR (b := 1) dX7_put_1 sh0 rfl (ci := 7) (j := 0) rfl (Nat.le_of_ble_eq_true rfl) ixX7 q131 rfl ?_
  refine r_iload_n dX7_put_4 rfl rfl ?_
  refine r_iload_n dX7_put_5 rfl rfl ?_
  refine r_callV (tX5_hasCell G σ r c (by omega) (hci.us.1) (hci.us.2.1)) dX7_put_6 svX5_hasCell q143 sh1 (ci := 5) rfl rfl rfl ⟨Nat.le_of_ble_eq_true rfl, Nat.le_of_ble_eq_true rfl⟩ (Nat.le_of_ble_eq_true rfl) ⟨Nat.le_of_ble_eq_true rfl, Nat.le_of_ble_eq_true rfl⟩ ?_
  rintro _ _ ⟨⟨hq1, rfl⟩ | ⟨hq1, rfl⟩, rfl⟩
  · skip
    refine r_if_ne (tgt := 22) dX7_put_9 (by decide) (by omega) (fun hb2 => ?_) (fun hb2 => ?_)
    · skip
      refine r_iload_n dX7_put_22 rfl rfl ?_
      refine r_iconst dX7_put_23 ?_
      refine r_sipush dX7_put_24 rfl ?_
      refine r_callS (tX7_isFromTo G σ v 0 9999 (by omega)) dX7_put_27 svX7_isFromTo q186 rfl ⟨Nat.le_of_ble_eq_true rfl, Nat.le_of_ble_eq_true rfl⟩ (Nat.le_of_ble_eq_true rfl) ⟨Nat.le_of_ble_eq_true rfl, Nat.le_of_ble_eq_true rfl⟩ ?_
      rintro _ _ ⟨⟨hq3, rfl⟩ | ⟨hq3, rfl⟩, rfl⟩
      · skip
        refine r_if_ne (tgt := 43) dX7_put_30 (by decide) (by omega) (fun hb4 => ?_) (fun hb4 => ?_)
        · skip
          refine r_aload_n dX7_put_43 rfl rfl ?_
          refine r_getR (b := 18) dX7_put_44 sh0 rfl (ci := 7) (j := 5) rfl (Nat.le_of_ble_eq_true rfl) ixX7 q136 rfl ?_
          refine r_aload_n dX7_put_47 rfl rfl ?_
          refine r_getR (b := 1) dX7_put_48 sh0 rfl (ci := 7) (j := 0) rfl (Nat.le_of_ble_eq_true rfl) ixX7 q131 rfl ?_
          refine r_callV (tX2_save G σ  (hci.us.2.2.2.2.2.2.2.2.1) (hci.us.2.2.1.2)) dX7_put_51 svX2_save q195 sh18 (ci := 2) rfl rfl rfl ⟨Nat.le_of_ble_eq_true rfl, Nat.le_of_ble_eq_true rfl⟩ (Nat.le_of_ble_eq_true rfl) ⟨Nat.le_of_ble_eq_true rfl, Nat.le_of_ble_eq_true rfl⟩ ?_
          rintro _ s ⟨rfl, hs⟩
          refine r_aload_n dX7_put_54 rfl rfl ?_
          refine r_getR (b := 1) dX7_put_55 sh0 rfl (ci := 7) (j := 0) rfl (Nat.le_of_ble_eq_true rfl) ixX7 q131 rfl ?_
          refine r_iload_n dX7_put_58 rfl rfl ?_
          refine r_iload_n dX7_put_59 rfl rfl ?_
          refine r_callV (tX5_numberAt G s r c (by omega)) dX7_put_60 svX5_numberAt q209 sh1 (ci := 5) rfl rfl rfl ⟨Nat.le_of_ble_eq_true rfl, Nat.le_of_ble_eq_true rfl⟩ (Nat.le_of_ble_eq_true rfl) ⟨Nat.le_of_ble_eq_true rfl, Nat.le_of_ble_eq_true rfl⟩ ?_
          rintro _ _ ⟨rfl, rfl⟩
          rw [show s 2 (10 * r + c) = σ 2 (10 * r + c) from congrFun (hs.1 2 (by decide) (by decide)) (10 * r + c)]
          refine r_istore (lv' := [(0, Rf G 0), (1, I r), (2, I c), (3, I v), (4, I (σ 2 (10 * r + c)))]) dX7_put_63 (Nat.le_of_ble_eq_true rfl) rfl ?_
          refine r_aload_n dX7_put_65 rfl rfl ?_
          refine r_getR (b := 1) dX7_put_66 sh0 rfl (ci := 7) (j := 0) rfl (Nat.le_of_ble_eq_true rfl) ixX7 q131 rfl ?_
          refine r_iload_n dX7_put_69 rfl rfl ?_
          refine r_iload_n dX7_put_70 rfl rfl ?_
          refine r_iload_n dX7_put_71 rfl rfl ?_
          refine r_callV (tX5_setNumber G s r c v (by omega)) dX7_put_72 svX5_setNumber q213 sh1 (ci := 5) rfl rfl rfl ⟨Nat.le_of_ble_eq_true rfl, Nat.le_of_ble_eq_true rfl⟩ (Nat.le_of_ble_eq_true rfl) ⟨Nat.le_of_ble_eq_true rfl, Nat.le_of_ble_eq_true rfl⟩ ?_
          rintro _ _ ⟨rfl, rfl⟩
          refine r_iload dX7_put_75 rfl ?_
          exact r_xl (r_widen (Nat.le_of_ble_eq_true rfl) (Nat.le_of_ble_eq_true rfl) (r_iret dX7_put_77 rfl (by rw [hP]; exact by rw [oPut_e, if_pos (by omega), if_pos (by omega)]; exact ⟨rfl, by rw [hT9], aft_k hci (Qs.refl σ) hs (Nc.u (Nc.refl s) (by decide)) (setT (stC σ 1) (fu (nT (stC σ 1)) (10 * r + c) v)) ((congrFun (up_ne (by decide)) 0).trans (congrFun (hs.1 1 (by decide) (by decide)) 0)) ((congrFun (up_ne (by decide)) 1).trans (congrFun (hs.1 1 (by decide) (by decide)) 1)) ((congrFun (up_ne (by decide)) 2).trans (congrFun (hs.1 1 (by decide) (by decide)) 2)) ((congrFun (up_ne (by decide)) 3).trans (congrFun (hs.1 1 (by decide) (by decide)) 3)) ((congrFun (up_ne (by decide)) 4).trans (congrFun (hs.1 1 (by decide) (by decide)) 4)) ((congrFun (up_ne (by decide)) 5).trans (congrFun (hs.1 1 (by decide) (by decide)) 5)) (by rw [fu_up, hs.1 2 (by decide) (by omega), hT9]) (by rw [((up_ne (by decide)).trans (hs.1 3 (by decide) (by decide)))]; rfl) ⟨hO9.1, hO9.2.1, hO9.2.2.1, (OkS_T hO9 (by omega) (by omega)).1, (OkS_T hO9 (by omega) (by omega)).2, hO9.2.2.2.2.2⟩⟩)))
        · skip
          exact absurd hb4 (by omega)
      · skip
        refine r_if_ne (tgt := 43) dX7_put_30 (by decide) (by omega) (fun hb5 => ?_) (fun hb5 => ?_)
        · skip
          exact absurd hb5 (by omega)
        · skip
          exact r_throw xg1 xn1 rfl q187 q12 stl97 xf1 xo1 dX7_put_33 dX7_put_36 dX7_put_37 dX7_put_39 dX7_put_42 (Nat.le_of_ble_eq_true rfl) (Nat.le_of_ble_eq_true rfl) (Nat.le_of_ble_eq_true rfl) (Nat.le_of_ble_eq_true rfl) (by rw [hX]; exact by rw [oPut_e]; first | (rw [if_neg (by omega)]; exact ⟨Or.inl ⟨rfl, rfl⟩, ((Qs.refl σ)).done hci⟩) | (rw [if_pos (by omega), if_neg (by omega)]; exact ⟨Or.inr ⟨rfl, rfl⟩, ((Qs.refl σ)).done hci⟩) | (rw [if_pos (by omega), if_pos (by omega)]; exact ⟨Or.inr ⟨rfl, rfl⟩, ((Qs.refl σ)).done hci⟩))
    · skip
      exact absurd hb2 (by omega)
  · skip
    refine r_if_ne (tgt := 22) dX7_put_9 (by decide) (by omega) (fun hb6 => ?_) (fun hb6 => ?_)
    · skip
      exact absurd hb6 (by omega)
    · skip
      exact r_throw xg2 xn2 rfl q150 q13 stl94 xf2 xo2 dX7_put_12 dX7_put_15 dX7_put_16 dX7_put_18 dX7_put_21 (Nat.le_of_ble_eq_true rfl) (Nat.le_of_ble_eq_true rfl) (Nat.le_of_ble_eq_true rfl) (Nat.le_of_ble_eq_true rfl) (by rw [hX]; exact by rw [oPut_e]; first | (rw [if_neg (by omega)]; exact ⟨Or.inl ⟨rfl, rfl⟩, ((Qs.refl σ)).done hci⟩) | (rw [if_pos (by omega), if_neg (by omega)]; exact ⟨Or.inr ⟨rfl, rfl⟩, ((Qs.refl σ)).done hci⟩) | (rw [if_pos (by omega), if_pos (by omega)]; exact ⟨Or.inr ⟨rfl, rfl⟩, ((Qs.refl σ)).done hci⟩))
set_option maxHeartbeats 1000000 in
set_option maxRecDepth 100000 in
theorem tX7_cell (G : GT) (σ : Sg) (r c : Int) (hci : CI σ) (hrg : (-2147483648 ≤ r ∧ r ≤ 2147483647) ∧ (-2147483648 ≤ c ∧ c ≤ 2147483647)) : CtX G mX7_cell 6 (SH Ω) [Rf G 0, I r, I c] σ (OkP σ (oCell (absC σ) r c)) (ExP σ (oCell (absC σ) r c) xE2 xE1) := by
  obtain ⟨P, hP⟩ : ∃ P : Option Value → Sg → Prop, P = (OkP σ (oCell (absC σ) r c)) := ⟨_, rfl⟩
  obtain ⟨X, hX⟩ : ∃ X : String → Sg → Prop, X = (ExP σ (oCell (absC σ) r c) xE2 xE1) := ⟨_, rfl⟩
  rw [← hP, ← hX]
  refine ctx_of (lv := [(0, Rf G 0), (1, I r), (2, I c)]) (by decide +kernel) (Nat.le_of_ble_eq_true rfl) rfl ?_
  have hci0 := hci.us
  obtain ⟨hR, hC, hn, hT, hwt, hp6, h11, h13, hh, hl, hc⟩ := hci0
  have hT9 : nT (stC σ 1) = σ 2 := hci.T
  have hO9 := OkS_now hci
  refine r_aload_n dX7_cell_0 rfl rfl ?_
  refine r_getR (b := 1) dX7_cell_1 sh0 rfl (ci := 7) (j := 0) rfl (Nat.le_of_ble_eq_true rfl) ixX7 q131 rfl ?_
  refine r_iload_n dX7_cell_4 rfl rfl ?_
  refine r_iload_n dX7_cell_5 rfl rfl ?_
  refine r_callV (tX5_hasCell G σ r c (by omega) (hci.us.1) (hci.us.2.1)) dX7_cell_6 svX5_hasCell q143 sh1 (ci := 5) rfl rfl rfl ⟨Nat.le_of_ble_eq_true rfl, Nat.le_of_ble_eq_true rfl⟩ (Nat.le_of_ble_eq_true rfl) ⟨Nat.le_of_ble_eq_true rfl, Nat.le_of_ble_eq_true rfl⟩ ?_
  rintro _ _ ⟨⟨hq1, rfl⟩ | ⟨hq1, rfl⟩, rfl⟩
  · skip
    refine r_if_ne (tgt := 22) dX7_cell_9 (by decide) (by omega) (fun hb2 => ?_) (fun hb2 => ?_)
    · skip
      refine r_aload_n dX7_cell_22 rfl rfl ?_
      refine r_getR (b := 1) dX7_cell_23 sh0 rfl (ci := 7) (j := 0) rfl (Nat.le_of_ble_eq_true rfl) ixX7 q131 rfl ?_
      refine r_iload_n dX7_cell_26 rfl rfl ?_
      refine r_iload_n dX7_cell_27 rfl rfl ?_
      refine r_callV (tX5_numberAt G σ r c (by omega)) dX7_cell_28 svX5_numberAt q209 sh1 (ci := 5) rfl rfl rfl ⟨Nat.le_of_ble_eq_true rfl, Nat.le_of_ble_eq_true rfl⟩ (Nat.le_of_ble_eq_true rfl) ⟨Nat.le_of_ble_eq_true rfl, Nat.le_of_ble_eq_true rfl⟩ ?_
      rintro _ _ ⟨rfl, rfl⟩
      exact r_xl (r_widen (Nat.le_of_ble_eq_true rfl) (Nat.le_of_ble_eq_true rfl) (r_iret dX7_cell_31 rfl (by rw [hP]; exact by rw [oCell_e, if_pos (by omega)]; exact ⟨rfl, by rw [hT9], ((Qs.refl σ)).done hci⟩)))
    · skip
      exact absurd hb2 (by omega)
  · skip
    refine r_if_ne (tgt := 22) dX7_cell_9 (by decide) (by omega) (fun hb3 => ?_) (fun hb3 => ?_)
    · skip
      exact absurd hb3 (by omega)
    · skip
      exact r_throw xg2 xn2 rfl q150 q13 stl94 xf2 xo2 dX7_cell_12 dX7_cell_15 dX7_cell_16 dX7_cell_18 dX7_cell_21 (Nat.le_of_ble_eq_true rfl) (Nat.le_of_ble_eq_true rfl) (Nat.le_of_ble_eq_true rfl) (Nat.le_of_ble_eq_true rfl) (by rw [hX]; exact by rw [oCell_e]; first | (rw [if_neg (by omega)]; exact ⟨Or.inl ⟨rfl, rfl⟩, ((Qs.refl σ)).done hci⟩) | (rw [if_pos (by omega), if_neg (by omega)]; exact ⟨Or.inr ⟨rfl, rfl⟩, ((Qs.refl σ)).done hci⟩) | (rw [if_pos (by omega), if_pos (by omega)]; exact ⟨Or.inr ⟨rfl, rfl⟩, ((Qs.refl σ)).done hci⟩))
set_option maxHeartbeats 1000000 in
set_option maxRecDepth 100000 in
theorem tX7_weight (G : GT) (σ : Sg) (i : Int) (hci : CI σ) (hrg : (-2147483648 ≤ i ∧ i ≤ 2147483647)) : CtX G mX7_weight 6 (SH Ω) [Rf G 0, I i] σ (OkP σ (oWeight (absC σ) i)) (ExP σ (oWeight (absC σ) i) xE2 xE1) := by
  obtain ⟨P, hP⟩ : ∃ P : Option Value → Sg → Prop, P = (OkP σ (oWeight (absC σ) i)) := ⟨_, rfl⟩
  obtain ⟨X, hX⟩ : ∃ X : String → Sg → Prop, X = (ExP σ (oWeight (absC σ) i) xE2 xE1) := ⟨_, rfl⟩
  rw [← hP, ← hX]
  refine ctx_of (lv := [(0, Rf G 0), (1, I i)]) (by decide +kernel) (Nat.le_of_ble_eq_true rfl) rfl ?_
  have hci0 := hci.us
  obtain ⟨hR, hC, hn, hT, hwt, hp6, h11, h13, hh, hl, hc⟩ := hci0
  have hT9 : nT (stC σ 1) = σ 2 := hci.T
  have hO9 := OkS_now hci
  refine r_iload_n dX7_weight_0 rfl rfl ?_
  refine r_iconst dX7_weight_1 ?_
  refine r_aload_n dX7_weight_2 rfl rfl ?_
  refine r_getR (b := 1) dX7_weight_3 sh0 rfl (ci := 7) (j := 0) rfl (Nat.le_of_ble_eq_true rfl) ixX7 q131 rfl ?_
  refine r_getI (z := 2) dX7_weight_6 sh1 rfl (ci := 5) (j := 2) rfl (Nat.le_of_ble_eq_true rfl) rfl ixX5 q43 rfl (hv := rfl) ?_
  refine r_iconst dX7_weight_9 ?_
  refine r_isub dX7_weight_10 ?_
  refine r_callS (tX7_isFromTo G σ i 0 ((σ 1 2) - 1) (by omega)) dX7_weight_11 svX7_isFromTo q186 rfl ⟨Nat.le_of_ble_eq_true rfl, Nat.le_of_ble_eq_true rfl⟩ (Nat.le_of_ble_eq_true rfl) ⟨Nat.le_of_ble_eq_true rfl, Nat.le_of_ble_eq_true rfl⟩ ?_
  rintro _ _ ⟨⟨hq1, rfl⟩ | ⟨hq1, rfl⟩, rfl⟩
  · skip
    refine r_if_ne (tgt := 27) dX7_weight_14 (by decide) (by omega) (fun hb2 => ?_) (fun hb2 => ?_)
    · skip
      refine r_aload_n dX7_weight_27 rfl rfl ?_
      refine r_getR (b := 1) dX7_weight_28 sh0 rfl (ci := 7) (j := 0) rfl (Nat.le_of_ble_eq_true rfl) ixX7 q131 rfl ?_
      refine r_iload_n dX7_weight_31 rfl rfl ?_
      refine r_callV (tX5_weightAt G σ i (by omega)) dX7_weight_32 svX5_weightAt q395 sh1 (ci := 5) rfl rfl rfl ⟨Nat.le_of_ble_eq_true rfl, Nat.le_of_ble_eq_true rfl⟩ (Nat.le_of_ble_eq_true rfl) ⟨Nat.le_of_ble_eq_true rfl, Nat.le_of_ble_eq_true rfl⟩ ?_
      rintro _ _ ⟨rfl, rfl⟩
      exact r_xl (r_widen (Nat.le_of_ble_eq_true rfl) (Nat.le_of_ble_eq_true rfl) (r_iret dX7_weight_35 rfl (by rw [hP]; exact by rw [oWeight_e, if_pos (by omega)]; exact ⟨rfl, by show some (I (rs (σ 1 2) (σ 3) i)) = _; rw [rs_at (by omega)], ((Qs.refl σ)).done hci⟩)))
    · skip
      exact absurd hb2 (by omega)
  · skip
    refine r_if_ne (tgt := 27) dX7_weight_14 (by decide) (by omega) (fun hb3 => ?_) (fun hb3 => ?_)
    · skip
      exact absurd hb3 (by omega)
    · skip
      exact r_throw xg2 xn2 rfl q150 q13 stl254 xf2 xo2 dX7_weight_17 dX7_weight_20 dX7_weight_21 dX7_weight_23 dX7_weight_26 (Nat.le_of_ble_eq_true rfl) (Nat.le_of_ble_eq_true rfl) (Nat.le_of_ble_eq_true rfl) (Nat.le_of_ble_eq_true rfl) (by rw [hX]; exact by rw [oWeight_e]; first | (rw [if_neg (by omega)]; exact ⟨Or.inl ⟨rfl, rfl⟩, ((Qs.refl σ)).done hci⟩) | (rw [if_pos (by omega), if_neg (by omega)]; exact ⟨Or.inr ⟨rfl, rfl⟩, ((Qs.refl σ)).done hci⟩) | (rw [if_pos (by omega), if_pos (by omega)]; exact ⟨Or.inr ⟨rfl, rfl⟩, ((Qs.refl σ)).done hci⟩))
set_option maxHeartbeats 1000000 in
set_option maxRecDepth 100000 in
theorem tX7_count (G : GT) (σ : Sg) (k : Int) (hci : CI σ) (hrg : (-2147483648 ≤ k ∧ k ≤ 2147483647)) : CtX G mX7_count 17 (SH Ω) [Rf G 0, I k] σ (OkP σ (oCount (absC σ) k)) (ExP σ (oCount (absC σ) k) xE1 xE3) := by
  obtain ⟨P, hP⟩ : ∃ P : Option Value → Sg → Prop, P = (OkP σ (oCount (absC σ) k)) := ⟨_, rfl⟩
  obtain ⟨X, hX⟩ : ∃ X : String → Sg → Prop, X = (ExP σ (oCount (absC σ) k) xE1 xE3) := ⟨_, rfl⟩
  rw [← hP, ← hX]
  refine ctx_of (lv := [(0, Rf G 0), (1, I k)]) (by decide +kernel) (Nat.le_of_ble_eq_true rfl) rfl ?_
  have hci0 := hci.us
  obtain ⟨hR, hC, hn, hT, hwt, hp6, h11, h13, hh, hl, hc⟩ := hci0
  have hT9 : nT (stC σ 1) = σ 2 := hci.T
  have hO9 := OkS_now hci
  refine r_iload_n dX7_count_0 rfl rfl ?_
  refine r_iconst dX7_count_1 ?_
  refine r_bipush dX7_count_2 rfl ?_
  refine r_callS (tX7_isFromTo G σ k 0 8 (by omega)) dX7_count_4 svX7_isFromTo q186 rfl ⟨Nat.le_of_ble_eq_true rfl, Nat.le_of_ble_eq_true rfl⟩ (Nat.le_of_ble_eq_true rfl) ⟨Nat.le_of_ble_eq_true rfl, Nat.le_of_ble_eq_true rfl⟩ ?_
  rintro _ _ ⟨⟨hq1, rfl⟩ | ⟨hq1, rfl⟩, rfl⟩
  · skip
    refine r_if_ne (tgt := 20) dX7_count_7 (by decide) (by omega) (fun hb2 => ?_) (fun hb2 => ?_)
    · skip
      refine r_aload_n dX7_count_20 rfl rfl ?_
      refine r_iload_n dX7_count_21 rfl rfl ?_
      refine r_callV (tX7_counted G σ k (hci) (by omega)) dX7_count_22 svX7_counted q353 sh0 (ci := 7) rfl rfl rfl ⟨Nat.le_of_ble_eq_true rfl, Nat.le_of_ble_eq_true rfl⟩ (Nat.le_of_ble_eq_true rfl) ⟨Nat.le_of_ble_eq_true rfl, Nat.le_of_ble_eq_true rfl⟩ ?_
      rintro _ s ⟨rfl, hs⟩
      exact r_xl (r_widen (Nat.le_of_ble_eq_true rfl) (Nat.le_of_ble_eq_true rfl) (r_iret dX7_count_25 rfl (by rw [hP]; exact by rw [oCount_e, if_pos (by omega)]; exact ⟨rfl, by show some (I (cnF (stC σ 1) ((hiC σ).length : Int) k)) = _; rw [show ((hiC σ).length : Int) = σ 18 0 by rw [hiC_len]; have := hh.1; omega], ((((Qs.refl σ)).tr hs)).done hci⟩)))
    · skip
      exact absurd hb2 (by omega)
  · skip
    refine r_if_ne (tgt := 20) dX7_count_7 (by decide) (by omega) (fun hb3 => ?_) (fun hb3 => ?_)
    · skip
      exact absurd hb3 (by omega)
    · skip
      exact r_throw xg1 xn1 rfl q187 q12 stl249 xf1 xo1 dX7_count_10 dX7_count_13 dX7_count_14 dX7_count_16 dX7_count_19 (Nat.le_of_ble_eq_true rfl) (Nat.le_of_ble_eq_true rfl) (Nat.le_of_ble_eq_true rfl) (Nat.le_of_ble_eq_true rfl) (by rw [hX]; exact by rw [oCount_e]; first | (rw [if_neg (by omega)]; exact ⟨Or.inl ⟨rfl, rfl⟩, ((Qs.refl σ)).done hci⟩) | (rw [if_pos (by omega), if_neg (by omega)]; exact ⟨Or.inr ⟨rfl, rfl⟩, ((Qs.refl σ)).done hci⟩) | (rw [if_pos (by omega), if_pos (by omega)]; exact ⟨Or.inr ⟨rfl, rfl⟩, ((Qs.refl σ)).done hci⟩))
set_option maxHeartbeats 1000000 in
set_option maxRecDepth 100000 in
theorem tX7_witness (G : GT) (σ : Sg) (k : Int) (hci : CI σ) (hrg : (-2147483648 ≤ k ∧ k ≤ 2147483647)) : CtX G mX7_witness 6 (SH Ω) [Rf G 0, I k] σ (OkP σ (oWitness (absC σ) k)) (ExP σ (oWitness (absC σ) k) xE1 xE3) := by
  obtain ⟨P, hP⟩ : ∃ P : Option Value → Sg → Prop, P = (OkP σ (oWitness (absC σ) k)) := ⟨_, rfl⟩
  obtain ⟨X, hX⟩ : ∃ X : String → Sg → Prop, X = (ExP σ (oWitness (absC σ) k) xE1 xE3) := ⟨_, rfl⟩
  rw [← hP, ← hX]
  refine ctx_of (lv := [(0, Rf G 0), (1, I k)]) (by decide +kernel) (Nat.le_of_ble_eq_true rfl) rfl ?_
  have hci0 := hci.us
  obtain ⟨hR, hC, hn, hT, hwt, hp6, h11, h13, hh, hl, hc⟩ := hci0
  have hT9 : nT (stC σ 1) = σ 2 := hci.T
  have hO9 := OkS_now hci
  refine r_iload_n dX7_witness_0 rfl rfl ?_
  refine r_iconst dX7_witness_1 ?_
  refine r_iconst dX7_witness_2 ?_
  refine r_callS (tX7_isFromTo G σ k 0 3 (by omega)) dX7_witness_3 svX7_isFromTo q186 rfl ⟨Nat.le_of_ble_eq_true rfl, Nat.le_of_ble_eq_true rfl⟩ (Nat.le_of_ble_eq_true rfl) ⟨Nat.le_of_ble_eq_true rfl, Nat.le_of_ble_eq_true rfl⟩ ?_
  rintro _ _ ⟨⟨hq1, rfl⟩ | ⟨hq1, rfl⟩, rfl⟩
  · skip
    refine r_if_ne (tgt := 19) dX7_witness_6 (by decide) (by omega) (fun hb2 => ?_) (fun hb2 => ?_)
    · skip
      refine r_aload_n dX7_witness_19 rfl rfl ?_
      refine r_getR (b := 4) dX7_witness_20 sh0 rfl (ci := 7) (j := 1) rfl (Nat.le_of_ble_eq_true rfl) ixX7 q132 rfl ?_
      refine r_callV (tX3_examine G σ  (hci.us.1) (hci.us.2.1) (hci.us.2.2.2.1)) dX7_witness_23 svX3_examine q243 sh4 (ci := 3) rfl rfl rfl ⟨Nat.le_of_ble_eq_true rfl, Nat.le_of_ble_eq_true rfl⟩ (Nat.le_of_ble_eq_true rfl) ⟨Nat.le_of_ble_eq_true rfl, Nat.le_of_ble_eq_true rfl⟩ ?_
      rintro _ _ ⟨rfl, rfl⟩
      refine r_aload_n dX7_witness_26 rfl rfl ?_
      refine r_getR (b := 4) dX7_witness_27 sh0 rfl (ci := 7) (j := 1) rfl (Nat.le_of_ble_eq_true rfl) ixX7 q132 rfl ?_
      refine r_iload_n dX7_witness_30 rfl rfl ?_
      refine r_callV (tX3_told G (exs σ (100 * (σ 1 0 - 1))) k (by omega)) dX7_witness_31 svX3_told q471 sh4 (ci := 3) rfl rfl rfl ⟨Nat.le_of_ble_eq_true rfl, Nat.le_of_ble_eq_true rfl⟩ (Nat.le_of_ble_eq_true rfl) ⟨Nat.le_of_ble_eq_true rfl, Nat.le_of_ble_eq_true rfl⟩ ?_
      rintro _ _ ⟨rfl, rfl⟩
      exact r_xl (r_widen (Nat.le_of_ble_eq_true rfl) (Nat.le_of_ble_eq_true rfl) (r_iret dX7_witness_34 rfl (by rw [hP]; exact by rw [oWitness_e, if_pos (by omega)]; exact ⟨rfl, by rw [exs_tl hci (by omega)], ((((Qs.refl σ)).tr Qs.ex)).done hci⟩)))
    · skip
      exact absurd hb2 (by omega)
  · skip
    refine r_if_ne (tgt := 19) dX7_witness_6 (by decide) (by omega) (fun hb3 => ?_) (fun hb3 => ?_)
    · skip
      exact absurd hb3 (by omega)
    · skip
      exact r_throw xg1 xn1 rfl q187 q12 stl244 xf1 xo1 dX7_witness_9 dX7_witness_12 dX7_witness_13 dX7_witness_15 dX7_witness_18 (Nat.le_of_ble_eq_true rfl) (Nat.le_of_ble_eq_true rfl) (Nat.le_of_ble_eq_true rfl) (Nat.le_of_ble_eq_true rfl) (by rw [hX]; exact by rw [oWitness_e]; first | (rw [if_neg (by omega)]; exact ⟨Or.inl ⟨rfl, rfl⟩, ((Qs.refl σ)).done hci⟩) | (rw [if_pos (by omega), if_neg (by omega)]; exact ⟨Or.inr ⟨rfl, rfl⟩, ((Qs.refl σ)).done hci⟩) | (rw [if_pos (by omega), if_pos (by omega)]; exact ⟨Or.inr ⟨rfl, rfl⟩, ((Qs.refl σ)).done hci⟩))
set_option maxHeartbeats 1000000 in
set_option maxRecDepth 100000 in
theorem tX7_looks (G : GT) (σ : Sg) (w : Int) (hci : CI σ) (hrg : (-2147483648 ≤ w ∧ w ≤ 2147483647)) : CtX G mX7_looks 16 (SH Ω) [Rf G 0, I w] σ (OkP σ (oLooks (absC σ) w)) (ExP σ (oLooks (absC σ) w) xE1 xE3) := by
  obtain ⟨P, hP⟩ : ∃ P : Option Value → Sg → Prop, P = (OkP σ (oLooks (absC σ) w)) := ⟨_, rfl⟩
  obtain ⟨X, hX⟩ : ∃ X : String → Sg → Prop, X = (ExP σ (oLooks (absC σ) w) xE1 xE3) := ⟨_, rfl⟩
  rw [← hP, ← hX]
  refine ctx_of (lv := [(0, Rf G 0), (1, I w)]) (by decide +kernel) (Nat.le_of_ble_eq_true rfl) rfl ?_
  have hci0 := hci.us
  obtain ⟨hR, hC, hn, hT, hwt, hp6, h11, h13, hh, hl, hc⟩ := hci0
  have hT9 : nT (stC σ 1) = σ 2 := hci.T
  have hO9 := OkS_now hci
  refine r_iload_n dX7_looks_0 rfl rfl ?_
  refine r_callS (tX7_isWay G σ w (by omega)) dX7_looks_1 svX7_isWay q248 rfl ⟨Nat.le_of_ble_eq_true rfl, Nat.le_of_ble_eq_true rfl⟩ (Nat.le_of_ble_eq_true rfl) ⟨Nat.le_of_ble_eq_true rfl, Nat.le_of_ble_eq_true rfl⟩ ?_
  rintro _ _ ⟨⟨hq1, rfl⟩ | ⟨hq1, rfl⟩, rfl⟩
  · skip
    refine r_if_ne (tgt := 17) dX7_looks_4 (by decide) (by omega) (fun hb2 => ?_) (fun hb2 => ?_)
    · skip
      refine r_aload_n dX7_looks_17 rfl rfl ?_
      refine r_iload_n dX7_looks_18 rfl rfl ?_
      refine r_callV (tX7_isOpen G σ w (hci.us.1) (hci.us.2.1) (hci.us.2.2.2.1) (by omega)) dX7_looks_19 svX7_isOpen q251 sh0 (ci := 7) rfl rfl rfl ⟨Nat.le_of_ble_eq_true rfl, Nat.le_of_ble_eq_true rfl⟩ (Nat.le_of_ble_eq_true rfl) ⟨Nat.le_of_ble_eq_true rfl, Nat.le_of_ble_eq_true rfl⟩ ?_
      rintro _ _ ⟨⟨hk, rfl⟩ | ⟨hk, rfl⟩, rfl⟩
      · skip
        refine r_if_ne (tgt := 27) dX7_looks_22 (by decide) (by omega) (fun hb3 => ?_) (fun hb3 => ?_)
        · skip
          refine r_aload_n dX7_looks_27 rfl rfl ?_
          refine r_getR (b := 5) dX7_looks_28 sh0 rfl (ci := 7) (j := 2) rfl (Nat.le_of_ble_eq_true rfl) ixX7 q133 rfl ?_
          refine r_iload_n dX7_looks_31 rfl rfl ?_
          refine r_callV (tX1_seek G (opn σ w) w (by omega) ((Qs.op.ci hci).us.1) ((Qs.op.ci hci).us.2.1) ((Qs.op.ci hci).us.2.2.2.1) ((Qs.op.ci hci).us.2.2.2.2.2.1)) dX7_looks_32 svX1_seek q262 sh5 (ci := 1) rfl rfl rfl ⟨Nat.le_of_ble_eq_true rfl, Nat.le_of_ble_eq_true rfl⟩ (Nat.le_of_ble_eq_true rfl) ⟨Nat.le_of_ble_eq_true rfl, Nat.le_of_ble_eq_true rfl⟩ ?_
          rintro _ s ⟨rfl, hs⟩
          have e9 := hs.2.2.1
          rw [Qs.op.1 1 (by decide), Qs.op.1 2 (by decide)] at e9
          refine r_aload_n dX7_looks_35 rfl rfl ?_
          refine r_getR (b := 5) dX7_looks_36 sh0 rfl (ci := 7) (j := 2) rfl (Nat.le_of_ble_eq_true rfl) ixX7 q133 rfl ?_
          refine r_iload_n dX7_looks_39 rfl rfl ?_
          refine r_callV (tX1_looksBy G s w (by omega)) dX7_looks_40 svX1_looksBy q312 sh5 (ci := 1) rfl rfl rfl ⟨Nat.le_of_ble_eq_true rfl, Nat.le_of_ble_eq_true rfl⟩ (Nat.le_of_ble_eq_true rfl) ⟨Nat.le_of_ble_eq_true rfl, Nat.le_of_ble_eq_true rfl⟩ ?_
          rintro _ _ ⟨rfl, rfl⟩
          exact r_xl (r_widen (Nat.le_of_ble_eq_true rfl) (Nat.le_of_ble_eq_true rfl) (r_iret dX7_looks_43 rfl (by rw [hP]; exact by rw [oLooks_e, if_pos (by omega), lkW_y hT9 hk]; exact ⟨rfl, by rw [e9], ((((((Qs.refl σ)).tr Qs.op)).tr (Qs.sk hs))).done hci⟩)))
        · skip
          exact absurd hb3 (by omega)
      · skip
        refine r_if_ne (tgt := 27) dX7_looks_22 (by decide) (by omega) (fun hb4 => ?_) (fun hb4 => ?_)
        · skip
          exact absurd hb4 (by omega)
        · skip
          refine r_iconst dX7_looks_25 ?_
          exact r_xl (r_widen (Nat.le_of_ble_eq_true rfl) (Nat.le_of_ble_eq_true rfl) (r_iret dX7_looks_26 rfl (by rw [hP]; exact by rw [oLooks_e, if_pos (by omega), lkW_n hT9 hk]; exact ⟨rfl, rfl, ((((Qs.refl σ)).tr Qs.op)).done hci⟩)))
    · skip
      exact absurd hb2 (by omega)
  · skip
    refine r_if_ne (tgt := 17) dX7_looks_4 (by decide) (by omega) (fun hb5 => ?_) (fun hb5 => ?_)
    · skip
      exact absurd hb5 (by omega)
    · skip
      exact r_throw xg1 xn1 rfl q187 q12 stl140 xf1 xo1 dX7_looks_7 dX7_looks_10 dX7_looks_11 dX7_looks_13 dX7_looks_16 (Nat.le_of_ble_eq_true rfl) (Nat.le_of_ble_eq_true rfl) (Nat.le_of_ble_eq_true rfl) (Nat.le_of_ble_eq_true rfl) (by rw [hX]; exact by rw [oLooks_e]; first | (rw [if_neg (by omega)]; exact ⟨Or.inl ⟨rfl, rfl⟩, ((Qs.refl σ)).done hci⟩) | (rw [if_pos (by omega), if_neg (by omega)]; exact ⟨Or.inr ⟨rfl, rfl⟩, ((Qs.refl σ)).done hci⟩) | (rw [if_pos (by omega), if_pos (by omega)]; exact ⟨Or.inr ⟨rfl, rfl⟩, ((Qs.refl σ)).done hci⟩))
set_option maxHeartbeats 1000000 in
set_option maxRecDepth 100000 in
theorem tX7_place (G : GT) (σ : Sg) (r w : Int) (hci : CI σ) (hrg : (-2147483648 ≤ r ∧ r ≤ 2147483647) ∧ (-2147483648 ≤ w ∧ w ≤ 2147483647)) : CtX G mX7_place 16 (SH Ω) [Rf G 0, I r, I w] σ (OkP σ (oPlace (absC σ) r w)) (ExP σ (oPlace (absC σ) r w) xE2 xE1) := by
  obtain ⟨P, hP⟩ : ∃ P : Option Value → Sg → Prop, P = (OkP σ (oPlace (absC σ) r w)) := ⟨_, rfl⟩
  obtain ⟨X, hX⟩ : ∃ X : String → Sg → Prop, X = (ExP σ (oPlace (absC σ) r w) xE2 xE1) := ⟨_, rfl⟩
  rw [← hP, ← hX]
  refine ctx_of (lv := [(0, Rf G 0), (1, I r), (2, I w)]) (by decide +kernel) (Nat.le_of_ble_eq_true rfl) rfl ?_
  have hci0 := hci.us
  obtain ⟨hR, hC, hn, hT, hwt, hp6, h11, h13, hh, hl, hc⟩ := hci0
  have hT9 : nT (stC σ 1) = σ 2 := hci.T
  have hO9 := OkS_now hci
  refine r_iload_n dX7_place_0 rfl rfl ?_
  refine r_iconst dX7_place_1 ?_
  refine r_aload_n dX7_place_2 rfl rfl ?_
  refine r_getR (b := 1) dX7_place_3 sh0 rfl (ci := 7) (j := 0) rfl (Nat.le_of_ble_eq_true rfl) ixX7 q131 rfl ?_
  refine r_getI (z := 0) dX7_place_6 sh1 rfl (ci := 5) (j := 0) rfl (Nat.le_of_ble_eq_true rfl) rfl ixX5 q35 rfl (hv := rfl) ?_
  refine r_iconst dX7_place_9 ?_
  refine r_isub dX7_place_10 ?_
  refine r_callS (tX7_isFromTo G σ r 0 ((σ 1 0) - 1) (by omega)) dX7_place_11 svX7_isFromTo q186 rfl ⟨Nat.le_of_ble_eq_true rfl, Nat.le_of_ble_eq_true rfl⟩ (Nat.le_of_ble_eq_true rfl) ⟨Nat.le_of_ble_eq_true rfl, Nat.le_of_ble_eq_true rfl⟩ ?_
  rintro _ _ ⟨⟨hq1, rfl⟩ | ⟨hq1, rfl⟩, rfl⟩
  · skip
    refine r_if_ne (tgt := 27) dX7_place_14 (by decide) (by omega) (fun hb2 => ?_) (fun hb2 => ?_)
    · skip
      refine r_iload_n dX7_place_27 rfl rfl ?_
      refine r_callS (tX7_isWay G σ w (by omega)) dX7_place_28 svX7_isWay q248 rfl ⟨Nat.le_of_ble_eq_true rfl, Nat.le_of_ble_eq_true rfl⟩ (Nat.le_of_ble_eq_true rfl) ⟨Nat.le_of_ble_eq_true rfl, Nat.le_of_ble_eq_true rfl⟩ ?_
      rintro _ _ ⟨⟨hq3, rfl⟩ | ⟨hq3, rfl⟩, rfl⟩
      · skip
        refine r_if_ne (tgt := 44) dX7_place_31 (by decide) (by omega) (fun hb4 => ?_) (fun hb4 => ?_)
        · skip
          refine r_aload_n dX7_place_44 rfl rfl ?_
          refine r_iload_n dX7_place_45 rfl rfl ?_
          refine r_callV (tX7_isOpen G σ w (hci.us.1) (hci.us.2.1) (hci.us.2.2.2.1) (by omega)) dX7_place_46 svX7_isOpen q251 sh0 (ci := 7) rfl rfl rfl ⟨Nat.le_of_ble_eq_true rfl, Nat.le_of_ble_eq_true rfl⟩ (Nat.le_of_ble_eq_true rfl) ⟨Nat.le_of_ble_eq_true rfl, Nat.le_of_ble_eq_true rfl⟩ ?_
          rintro _ _ ⟨⟨hk, rfl⟩ | ⟨hk, rfl⟩, rfl⟩
          · skip
            refine r_if_ne (tgt := 54) dX7_place_49 (by decide) (by omega) (fun hb5 => ?_) (fun hb5 => ?_)
            · skip
              refine r_aload_n dX7_place_54 rfl rfl ?_
              refine r_getR (b := 5) dX7_place_55 sh0 rfl (ci := 7) (j := 2) rfl (Nat.le_of_ble_eq_true rfl) ixX7 q133 rfl ?_
              refine r_iload_n dX7_place_58 rfl rfl ?_
              refine r_callV (tX1_seek G (opn σ w) w (by omega) ((Qs.op.ci hci).us.1) ((Qs.op.ci hci).us.2.1) ((Qs.op.ci hci).us.2.2.2.1) ((Qs.op.ci hci).us.2.2.2.2.2.1)) dX7_place_59 svX1_seek q262 sh5 (ci := 1) rfl rfl rfl ⟨Nat.le_of_ble_eq_true rfl, Nat.le_of_ble_eq_true rfl⟩ (Nat.le_of_ble_eq_true rfl) ⟨Nat.le_of_ble_eq_true rfl, Nat.le_of_ble_eq_true rfl⟩ ?_
              rintro _ s ⟨rfl, hs⟩
              have e9 := hs.2.2.2.2.1
              rw [Qs.op.1 1 (by decide), Qs.op.1 2 (by decide)] at e9
              refine r_aload_n dX7_place_62 rfl rfl ?_
              refine r_getR (b := 5) dX7_place_63 sh0 rfl (ci := 7) (j := 2) rfl (Nat.le_of_ble_eq_true rfl) ixX7 q133 rfl ?_
              refine r_iload_n dX7_place_66 rfl rfl ?_
              refine r_iload_n dX7_place_67 rfl rfl ?_
              refine r_callV (tX1_placeBy G s w r (by omega)) dX7_place_68 svX1_placeBy q462 sh5 (ci := 1) rfl rfl rfl ⟨Nat.le_of_ble_eq_true rfl, Nat.le_of_ble_eq_true rfl⟩ (Nat.le_of_ble_eq_true rfl) ⟨Nat.le_of_ble_eq_true rfl, Nat.le_of_ble_eq_true rfl⟩ ?_
              rintro _ _ ⟨rfl, rfl⟩
              exact r_xl (r_widen (Nat.le_of_ble_eq_true rfl) (Nat.le_of_ble_eq_true rfl) (r_iret dX7_place_71 rfl (by rw [hP]; exact by rw [oPlace_e, if_pos (by omega), if_pos (by omega), plW_y hT9 hk]; exact ⟨rfl, by rw [e9 r (by omega) (by omega)], ((((((Qs.refl σ)).tr Qs.op)).tr (Qs.sk hs))).done hci⟩)))
            · skip
              exact absurd hb5 (by omega)
          · skip
            refine r_if_ne (tgt := 54) dX7_place_49 (by decide) (by omega) (fun hb6 => ?_) (fun hb6 => ?_)
            · skip
              exact absurd hb6 (by omega)
            · skip
              refine r_iconst dX7_place_52 ?_
              exact r_xl (r_widen (Nat.le_of_ble_eq_true rfl) (Nat.le_of_ble_eq_true rfl) (r_iret dX7_place_53 rfl (by rw [hP]; exact by rw [oPlace_e, if_pos (by omega), if_pos (by omega), plW_n hT9 hk]; exact ⟨rfl, rfl, ((((Qs.refl σ)).tr Qs.op)).done hci⟩)))
        · skip
          exact absurd hb4 (by omega)
      · skip
        refine r_if_ne (tgt := 44) dX7_place_31 (by decide) (by omega) (fun hb7 => ?_) (fun hb7 => ?_)
        · skip
          exact absurd hb7 (by omega)
        · skip
          exact r_throw xg1 xn1 rfl q187 q12 stl140 xf1 xo1 dX7_place_34 dX7_place_37 dX7_place_38 dX7_place_40 dX7_place_43 (Nat.le_of_ble_eq_true rfl) (Nat.le_of_ble_eq_true rfl) (Nat.le_of_ble_eq_true rfl) (Nat.le_of_ble_eq_true rfl) (by rw [hX]; exact by rw [oPlace_e]; first | (rw [if_neg (by omega)]; exact ⟨Or.inl ⟨rfl, rfl⟩, ((Qs.refl σ)).done hci⟩) | (rw [if_pos (by omega), if_neg (by omega)]; exact ⟨Or.inr ⟨rfl, rfl⟩, ((Qs.refl σ)).done hci⟩) | (rw [if_pos (by omega), if_pos (by omega)]; exact ⟨Or.inr ⟨rfl, rfl⟩, ((Qs.refl σ)).done hci⟩))
    · skip
      exact absurd hb2 (by omega)
  · skip
    refine r_if_ne (tgt := 27) dX7_place_14 (by decide) (by omega) (fun hb8 => ?_) (fun hb8 => ?_)
    · skip
      exact absurd hb8 (by omega)
    · skip
      exact r_throw xg2 xn2 rfl q150 q13 stl239 xf2 xo2 dX7_place_17 dX7_place_20 dX7_place_21 dX7_place_23 dX7_place_26 (Nat.le_of_ble_eq_true rfl) (Nat.le_of_ble_eq_true rfl) (Nat.le_of_ble_eq_true rfl) (Nat.le_of_ble_eq_true rfl) (by rw [hX]; exact by rw [oPlace_e]; first | (rw [if_neg (by omega)]; exact ⟨Or.inl ⟨rfl, rfl⟩, ((Qs.refl σ)).done hci⟩) | (rw [if_pos (by omega), if_neg (by omega)]; exact ⟨Or.inr ⟨rfl, rfl⟩, ((Qs.refl σ)).done hci⟩) | (rw [if_pos (by omega), if_pos (by omega)]; exact ⟨Or.inr ⟨rfl, rfl⟩, ((Qs.refl σ)).done hci⟩))
