
theorem lsF_l {T : Int → Int} {row p l l' : Int} {f : Int → Int} : ∀ k : Nat, (∀ j : Int, 0 ≤ j → j < k → f j ≤ l ∧ f j ≤ l') → lsF T row p l f k = lsF T row p l' f k ∧ lcF p l f k = lcF p l' f k
  | 0, _ => ⟨rfl, rfl⟩
  | k + 1, h => by
    obtain ⟨h1, h2⟩ := lsF_l (T := T) (row := row) (p := p) k (fun j a b => h j a (by omega))
    have h3 := h k (by omega) (by omega)
    simp only [lsF, lcF]
    rw [h1, h2]
    unfold lstep
    have e : ∀ q : Prop, (p ≤ f (k : Int) ∧ f (k : Int) ≤ l ∧ q) ↔ (p ≤ f (k : Int) ∧ f (k : Int) ≤ l' ∧ q) := fun q => ⟨fun x => ⟨x.1, h3.2, x.2.2⟩, fun x => ⟨x.1, h3.1, x.2.2⟩⟩
    have e2 : (p ≤ f (k : Int) ∧ f (k : Int) ≤ l) ↔ (p ≤ f (k : Int) ∧ f (k : Int) ≤ l') := ⟨fun x => ⟨x.1, h3.2⟩, fun x => ⟨x.1, h3.1⟩⟩
    refine ⟨?_, ?_⟩
    · split <;> split <;> first | rfl | (rename_i a b; exact absurd ((e _).1 a) b) | (rename_i a b; exact absurd ((e _).2 b) a)
    · congr 1
      split <;> split <;> first | rfl | (rename_i a b; exact absurd (e2.1 a) b) | (rename_i a b; exact absurd (e2.2 b) a)
theorem flF_dl {T : Int → Int} {lvl N : Int} {g : Int → Int} {cnt : Nat} {dl dl' : Int} {pl : Int → Int} (hg : ∀ j : Int, 0 ≤ j → j < cnt → g j ≤ dl ∧ g j ≤ dl') : ∀ k : Nat, flF T lvl N g cnt dl pl k = flF T lvl N g cnt dl' pl k
  | 0 => rfl
  | k + 1 => by
    have ih := flF_dl (T := T) (lvl := lvl) (N := N) (pl := pl) hg k
    simp only [flF]
    rw [ih]
    by_cases c : 2 * (k : Int) + 1 < N
    · rw [if_pos c, if_pos c]
    · rw [if_neg c, if_neg c]
      have h := fun row p => lsF_l (T := T) (row := row) (p := p) (f := g) cnt hg
      rw [(h _ _).1, (h 0 _).2]

