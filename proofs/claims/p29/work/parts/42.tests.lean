variable {Ω : List Ob}
def x0 : St := (4, 4, 1, 0, 0, 0, (fun _ => 0), (fun j => if j = 0 then 1 else 0))
theorem x0_ok : OkS x0 := by
  refine ⟨by decide, by decide, by decide, fun i => by show (0 : Int) ≤ 0 ∧ (0 : Int) ≤ 9999; omega, fun _ _ => rfl, fun i h1 h2 => ?_, fun i h => ?_⟩
  · have h2 : i < 1 := h2
    have h3 : i = 0 := by omega
    subst h3
    show (1 : Int) ≤ 1 ∧ (1 : Int) ≤ 99
    omega
  · have h : i < 0 ∨ 1 ≤ i := h
    show (if i = 0 then (1 : Int) else 0) = 0
    rw [if_neg (by omega)]
theorem A0_ok : OkA (x0, [], none, none, []) := by
  refine ⟨x0_ok, fun x h => ?_, fun x h => ?_, fun x h => ?_, by decide, by decide, fun c h => ?_⟩ <;> cases h
theorem made_c {s : Sg} (h : InC s) : CI s ∧ absC s = (x0, [], none, none, []) := by
  obtain ⟨-, ⟨a0, a1, a2, a3, a4, a5⟩, ⟨b1, b2⟩, b3, b4, b5, b6, b7, ⟨b8, b9⟩, c1, c2⟩ := h
  have hst : stC s 1 = x0 := by
    unfold stC x0
    rw [a0, a1, a2, a3, a4, a5]
    have h1 : rs 100 (s (1 + 1)) = fun _ => 0 := by
      funext i
      unfold rs
      rw [show s (1 + 1) = fun _ => 0 from b3]
      split <;> rfl
    have h2 : rs 1 (s (1 + 2)) = fun j => if j = 0 then 1 else 0 := by
      funext i
      unfold rs
      rw [show s (1 + 2) = s 3 from rfl]
      by_cases hi : i = 0
      · subst hi
        rw [if_pos (by omega), if_pos rfl, b1]
      · rw [if_neg (by omega), if_neg hi]
    rw [h1, h2]
  have hh : hiC s = [] := by unfold hiC; rw [b8]; rfl
  have h38 : slC s 38 39 = none := by unfold slC; rw [c1]; rfl
  have h42 : slC s 42 43 = none := by unfold slC; rw [c2]; rfl
  have hb : bfC (s 16) (s 15 0) = [] := by rw [b7]; rfl
  have hx : absC s = (x0, [], none, none, []) := by unfold absC; rw [hst, hh, h38, h42, hb]
  refine ⟨⟨⟨fun x => by rw [b4]; show (-1 : Int) ≤ 0 ∧ (0 : Int) ≤ 9; omega, fun j _ _ => by rw [b5], by rw [b6]⟩, ⟨by omega, by omega, by omega, by omega⟩, ⟨by omega, by omega⟩, ⟨Or.inl c1, Or.inl c2⟩, fun i _ => by rw [b3], ?_⟩, hx⟩
  rw [hx]
  exact A0_ok


abbrev SH0 : List Ob := SH []
abbrev SH1 : List Ob := SH [.inr (.inr (.inl 64))]
theorem setB_nil {A : Ab} (h : A.2.2.2.2 = []) : setB A [] = A := by
  obtain ⟨a, b, c, d, l⟩ := A
  subst h
  rfl
/-- a call that throws changes nothing -/
theorem oSize_x {A : Ab} {r c : Int} : ¬ (oSize A r c).1 = 0 → (oSize A r c).2.2 = A := by unfold oSize; (repeat' split) <;> simp
theorem oPut_x {A : Ab} {r c v : Int} : ¬ (oPut A r c v).1 = 0 → (oPut A r c v).2.2 = A := by unfold oPut; (repeat' split) <;> simp
theorem oPoints_x {A : Ab} {a b c d : Int} : ¬ (oPoints A a b c d).1 = 0 → (oPoints A a b c d).2.2 = A := by unfold oPoints; (repeat' split) <;> simp
theorem oFind_x {A : Ab} {w : Int} : ¬ (oFind A w).1 = 0 → (oFind A w).2.2 = A := by unfold oFind; (repeat' split) <;> simp
theorem oWeigh_x {A : Ab} {v : Int} : ¬ (oWeigh A v).1 = 0 → (oWeigh A v).2.2 = A := by unfold oWeigh; (repeat' split) <;> simp
theorem oUnweigh_x {A : Ab} : ¬ (oUnweigh A).1 = 0 → (oUnweigh A).2.2 = A := by unfold oUnweigh; (repeat' split) <;> simp
theorem oAppend_x {A : Ab} {c : Int} : ¬ (oAppend A c).1 = 0 → (oAppend A c).2.2 = A := by unfold oAppend; (repeat' split) <;> simp
theorem oUndo_x {A : Ab} : ¬ (oUndo A).1 = 0 → (oUndo A).2.2 = A := by unfold oUndo; (repeat' split) <;> simp
theorem bkA_x {A : Ab} {o : Option St} : ¬ (bkA A o).1 = 0 → (bkA A o).2.2 = A := by cases o <;> simp [bkA]
theorem oBack_x {A : Ab} {s : Int} : ¬ (oBack A s).1 = 0 → (oBack A s).2.2 = A := by
  unfold oBack
  split
  · exact bkA_x
  · split
    · exact bkA_x
    · simp
theorem oLoad_x {A : Ab} : ¬ (oLoad A).1 = 0 → (oLoad A).2.2 = A := by unfold oLoad; (repeat' split) <;> simp
theorem oCell_A {A : Ab} {r c : Int} : (oCell A r c).2.2 = A := by unfold oCell; (repeat' split) <;> rfl
theorem oPlace_A {A : Ab} {r w : Int} : (oPlace A r w).2.2 = A := by unfold oPlace; (repeat' split) <;> rfl
theorem oLooks_A {A : Ab} {w : Int} : (oLooks A w).2.2 = A := by unfold oLooks; (repeat' split) <;> rfl
theorem oBound_A {A : Ab} : (oBound A).2.2 = A := rfl
theorem oWitness_A {A : Ab} {k : Int} : (oWitness A k).2.2 = A := by unfold oWitness; (repeat' split) <;> rfl
theorem oCount_A {A : Ab} {k : Int} : (oCount A k).2.2 = A := by unfold oCount; (repeat' split) <;> rfl
theorem oWeight_A {A : Ab} {i : Int} : (oWeight A i).2.2 = A := by unfold oWeight; (repeat' split) <;> rfl
theorem oCost_A {A : Ab} {p k : Int} : (oCost A p k).2.2 = A := by unfold oCost; (repeat' split) <;> rfl
theorem oCut_A {A : Ab} {p c : Int} : (oCut A p c).2.2 = A := by unfold oCut; (repeat' split) <;> rfl
theorem oFewest_A {A : Ab} {m : Int} : (oFewest A m).2.2 = A := by unfold oFewest; (repeat' split) <;> rfl
theorem oFirst_A {A : Ab} : (oFirst A).2.2 = A := rfl
def A00 : Ab := (x0, [], none, none, [])
/-- what the list of sevens tells -/
theorem er55 : (List.range 60).all (fun k => decide (erF (fun _ => 0) (fun _ => 55) (k + 1) = if (k : Int) < 4 then (k : Int) + 1 else 4)) = true := by decide +kernel
theorem gB_rep {n : Nat} {i : Int} (h : 0 ≤ i ∧ i < (n : Int)) : gB (List.replicate n 55) i = 55 := by
  unfold gB
  rw [List.getD_eq_getElem?_getD, List.getElem?_replicate, if_pos (by omega)]
  rfl
theorem er_rep {k : Nat} (h : k < 60) : erF (fun _ => 0) (gB (List.replicate (k + 1) 55)) (List.replicate (k + 1) (55 : Int)).length = if (k : Int) < 4 then (k : Int) + 1 else 4 := by
  rw [List.length_replicate, erF_AR (g := fun _ => 0) (g' := fun _ => 0) (f := gB (List.replicate (k + 1) 55)) (f' := fun _ => 55) (k + 1) (fun i a b => gB_rep ⟨a, b⟩)]
  exact of_decide_eq_true (List.all_eq_true.mp er55 k (List.mem_range.mpr h))
theorem oAppend_7 {A : Ab} {k : Nat} (h : k < 60) : oAppend (setB A (List.replicate k 55)) 55 = (0, (k : Int) + 1, setB A (List.replicate (k + 1) 55)) := by
  rw [oAppend_y (by decide) (by rw [List.length_replicate]; exact h), List.length_replicate, List.replicate_succ']
theorem oFirst_7 {A : Ab} {k : Nat} (h : k < 60) : oFirst (setB A (List.replicate (k + 1) 55)) = (0, (if (k : Int) < 4 then (k : Int) + 1 else 4), setB A (List.replicate (k + 1) 55)) := by
  show (0, erF (fun _ => 0) (gB (List.replicate (k + 1) 55)) (List.replicate (k + 1) (55 : Int)).length, _) = _
  rw [er_rep h]

