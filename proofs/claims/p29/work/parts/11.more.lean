section MORE
variable {G : GT} {M : MI} {R : Room} {E : ET} {Z : ZT} {ex : Bool} {sh : List Ob} {k n : Nat} {pc : Nat} {lv lv' : List (Nat × Value)} {st : List Value} {σ : Sg}
theorem r_dup {v : Value} (hdg : decode M.2.1 pc = .ok (.dup, 1)) (hv : v.category = 1) (kk : Rn G M R E Z ex sh k n (pc + 1) lv (v :: v :: st) σ) : Rn G M R E Z ex sh k n pc lv (v :: st) σ := fun p l e s m args below meth c H locs ls F => lv_dup F.1 F.2.1 hdg hv (kk p l e s m args below meth c H locs ls F)
theorem r_dup2 {v w : Value} (hdg : decode M.2.1 pc = .ok (.dup2, 1)) (hv : v.category = 1) (hw : w.category = 1) (kk : Rn G M R E Z ex sh k n (pc + 1) lv (v :: w :: v :: w :: st) σ) : Rn G M R E Z ex sh k n pc lv (v :: w :: st) σ := fun p l e s m args below meth c H locs ls F => lv_dup2_11 F.1 F.2.1 hdg hv hw (kk p l e s m args below meth c H locs ls F)
theorem r_dup_x1 {v w : Value} (hdg : decode M.2.1 pc = .ok (.dup_x1, 1)) (hv : v.category = 1) (hw : w.category = 1) (kk : Rn G M R E Z ex sh k n (pc + 1) lv (v :: w :: v :: st) σ) : Rn G M R E Z ex sh k n pc lv (v :: w :: st) σ := fun p l e s m args below meth c H locs ls F => lv_dup_x1 F.1 F.2.1 hdg hv hw (kk p l e s m args below meth c H locs ls F)
theorem r_pop {v : Value} (hdg : decode M.2.1 pc = .ok (.pop, 1)) (hv : v.category = 1) (kk : Rn G M R E Z ex sh k n (pc + 1) lv st σ) : Rn G M R E Z ex sh k n pc lv (v :: st) σ := fun p l e s m args below meth c H locs ls F => lv_pop F.1 F.2.1 hdg hv (kk p l e s m args below meth c H locs ls F)
theorem r_ifnull {a : Nat} {off : Int} (hdg : decode M.2.1 pc = .ok (.ifnull off, 3)) (kk : Rn G M R E Z ex sh k n (pc + 3) lv st σ) : Rn G M R E Z ex sh k n pc lv (Rf G a :: st) σ := fun p l e s m args below meth c H locs ls F => lv_ifnull F.1 F.2.1 hdg (kk p l e s m args below meth c H locs ls F)
theorem r_ifnonnull {a tgt : Nat} {off : Int} (hdg : decode M.2.1 pc = .ok (.ifnonnull off, 3)) (ht : (pc : Int) + off = (tgt : Int)) (kk : Rn G M R E Z ex sh k n tgt lv st σ) : Rn G M R E Z ex sh k n pc lv (Rf G a :: st) σ := fun p l e s m args below meth c H locs ls F => lv_ifnonnull F.1 F.2.1 hdg ht (kk p l e s m args below meth c H locs ls F)
theorem r_i2l {x : Int} (hdg : decode M.2.1 pc = .ok (.i2l, 1)) (h : -2147483648 ≤ x ∧ x ≤ 2147483647) (kk : Rn G M R E Z ex sh k n (pc + 1) lv (Lg x :: st) σ) : Rn G M R E Z ex sh k n pc lv (I x :: st) σ := fun p l e s m args below meth c H locs ls F => lv_i2l F.1 F.2.1 hdg (Int32.toInt64_ofInt h.1 h.2) (kk p l e s m args below meth c H locs ls F)
theorem r_ladd {x y : Int} (hdg : decode M.2.1 pc = .ok (.ladd, 1)) (kk : Rn G M R E Z ex sh k n (pc + 1) lv (Lg (x + y) :: st) σ) : Rn G M R E Z ex sh k n pc lv (Lg y :: Lg x :: st) σ := fun p l e s m args below meth c H locs ls F => lv_ladd F.1 F.2.1 hdg (by have h := kk p l e s m args below meth c H locs ls F; rwa [Lg, Int64.ofInt_add] at h)
theorem r_lmul {x y : Int} (hdg : decode M.2.1 pc = .ok (.lmul, 1)) (kk : Rn G M R E Z ex sh k n (pc + 1) lv (Lg (x * y) :: st) σ) : Rn G M R E Z ex sh k n pc lv (Lg y :: Lg x :: st) σ := fun p l e s m args below meth c H locs ls F => lv_lmul F.1 F.2.1 hdg (by have h := kk p l e s m args below meth c H locs ls F; rwa [Lg, Int64.ofInt_mul] at h)
theorem r_i2d {x : Int} (hdg : decode M.2.1 pc = .ok (.i2d, 1)) (kk : Rn G M R E Z ex sh k n (pc + 1) lv (.double (FP.i2d (Int32.ofInt x)) :: st) σ) : Rn G M R E Z ex sh k n pc lv (I x :: st) σ := fun p l e s m args below meth c H locs ls F => lv_i2d F.1 F.2.1 hdg (kk p l e s m args below meth c H locs ls F)
theorem r_ddiv {x y : UInt64} (hdg : decode M.2.1 pc = .ok (.ddiv, 1)) (hn : vf_n64 (FP.ddiv x y)) (kk : Rn G M R E Z ex sh k n (pc + 1) lv (.double (FP.ddiv x y) :: st) σ) : Rn G M R E Z ex sh k n pc lv (.double y :: .double x :: st) σ := fun p l e s m args below meth c H locs ls F => lv_ddiv F.1 F.2.1 hdg hn (kk p l e s m args below meth c H locs ls F)
theorem r_dmul {x y : UInt64} (hdg : decode M.2.1 pc = .ok (.dmul, 1)) (hn : vf_n64 (FP.dmul x y)) (kk : Rn G M R E Z ex sh k n (pc + 1) lv (.double (FP.dmul x y) :: st) σ) : Rn G M R E Z ex sh k n pc lv (.double y :: .double x :: st) σ := fun p l e s m args below meth c H locs ls F => lv_dmul F.1 F.2.1 hdg hn (kk p l e s m args below meth c H locs ls F)
theorem r_dsub {x y : UInt64} (hdg : decode M.2.1 pc = .ok (.dsub, 1)) (hn : vf_n64 (FP.dsub x y)) (kk : Rn G M R E Z ex sh k n (pc + 1) lv (.double (FP.dsub x y) :: st) σ) : Rn G M R E Z ex sh k n pc lv (.double y :: .double x :: st) σ := fun p l e s m args below meth c H locs ls F => lv_dsub F.1 F.2.1 hdg hn (kk p l e s m args below meth c H locs ls F)
theorem r_dcmp {x y : UInt64} {o : CmpOp} {z : Int} (hdg : decode M.2.1 pc = .ok (.dcmp o, 1)) (hz : Op.cmpValue (FP.dcmp x y) o = Int32.ofInt z) (kk : Rn G M R E Z ex sh k n (pc + 1) lv (I z :: st) σ) : Rn G M R E Z ex sh k n pc lv (.double y :: .double x :: st) σ := fun p l e s m args below meth c H locs ls F => lv_dcmp F.1 F.2.1 hdg (by have h := kk p l e s m args below meth c H locs ls F; rwa [I, ← hz] at h)
theorem r_d2l {x : UInt64} {z : Int} (hdg : decode M.2.1 pc = .ok (.d2l, 1)) (hz : FP.d2l x = Int64.ofInt z) (kk : Rn G M R E Z ex sh k n (pc + 1) lv (Lg z :: st) σ) : Rn G M R E Z ex sh k n pc lv (.double x :: st) σ := fun p l e s m args below meth c H locs ls F => lv_d2l F.1 F.2.1 hdg (by have h := kk p l e s m args below meth c H locs ls F; rwa [Lg, ← hz] at h)
def p2 (y : Int) : Int := 2 ^ y.toNat
theorem p2_0 : p2 0 = 1 := rfl
theorem p2_1 : p2 1 = 2 := rfl
theorem p2_2 : p2 2 = 4 := rfl
theorem p2_3 : p2 3 = 8 := rfl
theorem p2_4 : p2 4 = 16 := rfl
theorem oI_nI (n : Nat) : Int32.ofInt (n : Int) = nI n := Int32.ofInt_eq_ofNat
theorem r_ishl {x y : Int} (hdg : decode M.2.1 pc = .ok (.ishl, 1)) (h : 0 ≤ x ∧ x ≤ 1000 ∧ 0 ≤ y ∧ y ≤ 4) (kk : Rn G M R E Z ex sh k n (pc + 1) lv (I (x * p2 y) :: st) σ) : Rn G M R E Z ex sh k n pc lv (I y :: I x :: st) σ := by
  intro p l e s m args below meth c H locs ls F
  refine lv_ishl F.1 F.2.1 hdg ?_
  have h9 := kk p l e s m args below meth c H locs ls F
  obtain ⟨a, rfl⟩ : ∃ a : Nat, x = (a : Int) := ⟨x.toNat, by omega⟩
  have hy : y = 0 ∨ y = 1 ∨ y = 2 ∨ y = 3 ∨ y = 4 := by omega
  have e9 : Int32.ofInt ((a : Int) * p2 y) = Int32.ofInt (a : Int) <<< (Int32.ofInt y &&& 31) := by
    rcases hy with rfl | rfl | rfl | rfl | rfl
    · rw [show (a : Int) * p2 0 = ((a * 2 ^ 0 : Nat) : Int) by rw [p2_0]; omega, oI_nI, oI_nI, ← pk_shlN (Int32.ofInt 0 &&& 31) 0 (by decide) (by omega)]
    · rw [show (a : Int) * p2 1 = ((a * 2 ^ 1 : Nat) : Int) by rw [p2_1]; omega, oI_nI, oI_nI, ← pk_shlN (Int32.ofInt 1 &&& 31) 1 (by decide) (by omega)]
    · rw [show (a : Int) * p2 2 = ((a * 2 ^ 2 : Nat) : Int) by rw [p2_2]; omega, oI_nI, oI_nI, ← pk_shlN (Int32.ofInt 2 &&& 31) 2 (by decide) (by omega)]
    · rw [show (a : Int) * p2 3 = ((a * 2 ^ 3 : Nat) : Int) by rw [p2_3]; omega, oI_nI, oI_nI, ← pk_shlN (Int32.ofInt 3 &&& 31) 3 (by decide) (by omega)]
    · rw [show (a : Int) * p2 4 = ((a * 2 ^ 4 : Nat) : Int) by rw [p2_4]; omega, oI_nI, oI_nI, ← pk_shlN (Int32.ofInt 4 &&& 31) 4 (by decide) (by omega)]
  rwa [I, e9] at h9
theorem r_ishr {x y : Int} (hdg : decode M.2.1 pc = .ok (.ishr, 1)) (h : 0 ≤ x ∧ x ≤ 1000 ∧ 0 ≤ y ∧ y ≤ 4) (kk : Rn G M R E Z ex sh k n (pc + 1) lv (I (x / p2 y) :: st) σ) : Rn G M R E Z ex sh k n pc lv (I y :: I x :: st) σ := by
  intro p l e s m args below meth c H locs ls F
  refine lv_ishr F.1 F.2.1 hdg ?_
  have h9 := kk p l e s m args below meth c H locs ls F
  obtain ⟨a, rfl⟩ : ∃ a : Nat, x = (a : Int) := ⟨x.toNat, by omega⟩
  have hy : y = 0 ∨ y = 1 ∨ y = 2 ∨ y = 3 ∨ y = 4 := by omega
  have e9 : Int32.ofInt ((a : Int) / p2 y) = Int32.ofInt (a : Int) >>> (Int32.ofInt y &&& 31) := by
    rcases hy with rfl | rfl | rfl | rfl | rfl
    · rw [show (a : Int) / p2 0 = ((a / 2 ^ 0 : Nat) : Int) by rw [p2_0]; omega, oI_nI, oI_nI, ← pk_shrN (by omega) (Int32.ofInt 0 &&& 31) 0 (by decide)]
    · rw [show (a : Int) / p2 1 = ((a / 2 ^ 1 : Nat) : Int) by rw [p2_1]; omega, oI_nI, oI_nI, ← pk_shrN (by omega) (Int32.ofInt 1 &&& 31) 1 (by decide)]
    · rw [show (a : Int) / p2 2 = ((a / 2 ^ 2 : Nat) : Int) by rw [p2_2]; omega, oI_nI, oI_nI, ← pk_shrN (by omega) (Int32.ofInt 2 &&& 31) 2 (by decide)]
    · rw [show (a : Int) / p2 3 = ((a / 2 ^ 3 : Nat) : Int) by rw [p2_3]; omega, oI_nI, oI_nI, ← pk_shrN (by omega) (Int32.ofInt 3 &&& 31) 3 (by decide)]
    · rw [show (a : Int) / p2 4 = ((a / 2 ^ 4 : Nat) : Int) by rw [p2_4]; omega, oI_nI, oI_nI, ← pk_shrN (by omega) (Int32.ofInt 4 &&& 31) 4 (by decide)]
  rwa [I, e9] at h9
theorem r_putZ {a ci j N idx : Nat} {z w : Int} {fks : List FK} {C : String} {T : u_T} (ty0 : Nat → FieldType) (hdg : decode M.2.1 pc = .ok (.putfield idx, 3)) (hs : sh[a]? = some (.inl (ci, fks))) (hf : fks[j]? = some (.inl false)) (hc : vwCl[ci]? = some (C, T, N)) (hj : j < N) (hz : (j : Int) = z)
    (hty : ∀ k, k < N → parseFieldDescriptor (T k).2.2.1 = some (ty0 k)) (hnm : ∀ a, a < N → ∀ b, b < N → a ≠ b → (T a).2.1 ≠ (T b).2.1)
    (hin : ∀ w ∈ u_ws C T N, w ∈ TBG) (hlink : Cond.fieldLink M.1.cls idx C (T j).2.1 (T j).2.2.1 ∈ TBG) (hC : C = (T j).1) (hfin : (T j).2.2.2 = false) (hty1 : ty0 j = .boolean) (hn : narrow .boolean (I w) = I w) (hft : fits .boolean (I w) = true)
    (kk : Rn G M R E Z ex sh k n (pc + 3) lv st (up σ a z w)) : Rn G M R E Z ex sh k n pc lv (I w :: Rf G a :: st) σ := by
  refine r_putf (fk1 := .inl false) ty0 hdg hs hf hc hj hz hty hnm hin hlink hC hfin hty1 rfl hn hft ?_
  rw [fk_same hf, set_same hs]
  exact kk
theorem r_tableIn {dflt lo hi : Int} {offs : Array Int} {len : Nat} {x off : Int} {tgt : Nat} (hdg : decode M.2.1 pc = .ok (.tableswitch dflt lo hi offs, len)) (h : -2147483648 ≤ x ∧ x ≤ 2147483647 ∧ lo ≤ x ∧ x ≤ hi) (ho : offs[(x - lo).toNat]? = some off) (ht : (pc : Int) + off = (tgt : Int))
    (kk : Rn G M R E Z ex sh k n tgt lv st σ) : Rn G M R E Z ex sh k n pc lv (I x :: st) σ := fun p l e s m args below meth c H locs ls F => lv_tableIn F.1 F.2.1 hdg (by rw [oI h.1 h.2.1]; omega) (by rw [oI h.1 h.2.1]; omega) (by rw [oI h.1 h.2.1]; exact ho) ht (kk p l e s m args below meth c H locs ls F)
theorem r_tableOut {dflt lo hi : Int} {offs : Array Int} {len : Nat} {x : Int} {tgt : Nat} (hdg : decode M.2.1 pc = .ok (.tableswitch dflt lo hi offs, len)) (h : -2147483648 ≤ x ∧ x ≤ 2147483647 ∧ (x < lo ∨ hi < x)) (ht : (pc : Int) + dflt = (tgt : Int))
    (kk : Rn G M R E Z ex sh k n tgt lv st σ) : Rn G M R E Z ex sh k n pc lv (I x :: st) σ := fun p l e s m args below meth c H locs ls F => lv_tableOut F.1 F.2.1 hdg (by rw [oI h.1 h.2.1]; exact h.2.2) ht (kk p l e s m args below meth c H locs ls F)
end MORE
def svd : Nat → Option Nat := fun i => bif Nat.blt i 6 then some (20 + 3 * i) else none
abbrev ob0 : Ob := .inl (7, [.inr (some 1), .inr (some 4), .inr (some 5), .inr (some 10), .inr (some 15), .inr (some 18), .inr (some 38), .inr (some 42)])
abbrev ob1 : Ob := .inl (5, [.inl false, .inl false, .inl false, .inl false, .inl false, .inl false, .inr (some 2), .inr (some 3)])
abbrev ob2 : Ob := .inr (.inl 100)
abbrev ob3 : Ob := .inr (.inl 10)
abbrev ob4 : Ob := .inl (3, [.inl false, .inl false, .inl false, .inl false, .inr (some 1)])
abbrev ob5 : Ob := .inl (1, [.inr (some 1), .inr (some 6), .inr (some 7), .inr (some 8), .inr (some 9), .inl false, .inl false])
abbrev ob6 : Ob := .inr (.inl 30)
abbrev ob7 : Ob := .inr (.inl 3)
abbrev ob8 : Ob := .inr (.inl 50)
abbrev ob9 : Ob := .inr (.inl 5)
abbrev ob10 : Ob := .inl (0, [.inr (some 1), .inr (some 11), .inr (some 12), .inr (some 13), .inr (some 14)])
abbrev ob11 : Ob := .inr (.inl 121)
abbrev ob12 : Ob := .inr (.inl 121)
abbrev ob13 : Ob := .inr (.inl 11)
abbrev ob14 : Ob := .inr (.inl 11)
abbrev ob15 : Ob := .inl (6, [.inl false, .inr (some 16), .inr (some 17), .inl false, .inl false, .inl false, .inl false, .inl false])
abbrev ob16 : Ob := .inr (.inl 60)
abbrev ob17 : Ob := .inr (.inl 100)
abbrev ob18 : Ob := .inl (2, [.inl false, .inl false, .inr (some 19)])
abbrev ob19 : Ob := .inr (.inr (.inr (6, svd)))
abbrev ob20 : Ob := .inl (5, [.inl false, .inl false, .inl false, .inl false, .inl false, .inl false, .inr (some 21), .inr (some 22)])
abbrev ob21 : Ob := .inr (.inl 100)
abbrev ob22 : Ob := .inr (.inl 10)
abbrev ob23 : Ob := .inl (5, [.inl false, .inl false, .inl false, .inl false, .inl false, .inl false, .inr (some 24), .inr (some 25)])
abbrev ob24 : Ob := .inr (.inl 100)
abbrev ob25 : Ob := .inr (.inl 10)
abbrev ob26 : Ob := .inl (5, [.inl false, .inl false, .inl false, .inl false, .inl false, .inl false, .inr (some 27), .inr (some 28)])
abbrev ob27 : Ob := .inr (.inl 100)
abbrev ob28 : Ob := .inr (.inl 10)
abbrev ob29 : Ob := .inl (5, [.inl false, .inl false, .inl false, .inl false, .inl false, .inl false, .inr (some 30), .inr (some 31)])
abbrev ob30 : Ob := .inr (.inl 100)
abbrev ob31 : Ob := .inr (.inl 10)
abbrev ob32 : Ob := .inl (5, [.inl false, .inl false, .inl false, .inl false, .inl false, .inl false, .inr (some 33), .inr (some 34)])
abbrev ob33 : Ob := .inr (.inl 100)
abbrev ob34 : Ob := .inr (.inl 10)
abbrev ob35 : Ob := .inl (5, [.inl false, .inl false, .inl false, .inl false, .inl false, .inl false, .inr (some 36), .inr (some 37)])
abbrev ob36 : Ob := .inr (.inl 100)
abbrev ob37 : Ob := .inr (.inl 10)
abbrev ob38 : Ob := .inl (4, [.inl false, .inr (some 39)])
abbrev ob39 : Ob := .inl (5, [.inl false, .inl false, .inl false, .inl false, .inl false, .inl false, .inr (some 40), .inr (some 41)])
abbrev ob40 : Ob := .inr (.inl 100)
abbrev ob41 : Ob := .inr (.inl 10)
abbrev ob42 : Ob := .inl (4, [.inl false, .inr (some 43)])
abbrev ob43 : Ob := .inl (5, [.inl false, .inl false, .inl false, .inl false, .inl false, .inl false, .inr (some 44), .inr (some 45)])
abbrev ob44 : Ob := .inr (.inl 100)
abbrev ob45 : Ob := .inr (.inl 10)
def SH (Ω : List Ob) : List Ob := [ob0, ob1, ob2, ob3, ob4, ob5, ob6, ob7, ob8, ob9, ob10, ob11, ob12, ob13, ob14, ob15, ob16, ob17, ob18, ob19, ob20, ob21, ob22, ob23, ob24, ob25, ob26, ob27, ob28, ob29, ob30, ob31, ob32, ob33, ob34, ob35, ob36, ob37, ob38, ob39, ob40, ob41, ob42, ob43, ob44, ob45] ++ Ω
theorem sh0 {Ω : List Ob} : (SH Ω)[0]? = some ob0 := rfl
theorem sh1 {Ω : List Ob} : (SH Ω)[1]? = some ob1 := rfl
theorem sh2 {Ω : List Ob} : (SH Ω)[2]? = some ob2 := rfl
theorem sh3 {Ω : List Ob} : (SH Ω)[3]? = some ob3 := rfl
theorem sh4 {Ω : List Ob} : (SH Ω)[4]? = some ob4 := rfl
theorem sh5 {Ω : List Ob} : (SH Ω)[5]? = some ob5 := rfl
theorem sh6 {Ω : List Ob} : (SH Ω)[6]? = some ob6 := rfl
theorem sh7 {Ω : List Ob} : (SH Ω)[7]? = some ob7 := rfl
theorem sh8 {Ω : List Ob} : (SH Ω)[8]? = some ob8 := rfl
theorem sh9 {Ω : List Ob} : (SH Ω)[9]? = some ob9 := rfl
theorem sh10 {Ω : List Ob} : (SH Ω)[10]? = some ob10 := rfl
theorem sh11 {Ω : List Ob} : (SH Ω)[11]? = some ob11 := rfl
theorem sh12 {Ω : List Ob} : (SH Ω)[12]? = some ob12 := rfl
theorem sh13 {Ω : List Ob} : (SH Ω)[13]? = some ob13 := rfl
theorem sh14 {Ω : List Ob} : (SH Ω)[14]? = some ob14 := rfl
theorem sh15 {Ω : List Ob} : (SH Ω)[15]? = some ob15 := rfl
theorem sh16 {Ω : List Ob} : (SH Ω)[16]? = some ob16 := rfl
theorem sh17 {Ω : List Ob} : (SH Ω)[17]? = some ob17 := rfl
theorem sh18 {Ω : List Ob} : (SH Ω)[18]? = some ob18 := rfl
theorem sh19 {Ω : List Ob} : (SH Ω)[19]? = some ob19 := rfl
theorem sh20 {Ω : List Ob} : (SH Ω)[20]? = some ob20 := rfl
theorem sh21 {Ω : List Ob} : (SH Ω)[21]? = some ob21 := rfl
theorem sh22 {Ω : List Ob} : (SH Ω)[22]? = some ob22 := rfl
theorem sh23 {Ω : List Ob} : (SH Ω)[23]? = some ob23 := rfl
theorem sh24 {Ω : List Ob} : (SH Ω)[24]? = some ob24 := rfl
theorem sh25 {Ω : List Ob} : (SH Ω)[25]? = some ob25 := rfl
theorem sh26 {Ω : List Ob} : (SH Ω)[26]? = some ob26 := rfl
theorem sh27 {Ω : List Ob} : (SH Ω)[27]? = some ob27 := rfl
theorem sh28 {Ω : List Ob} : (SH Ω)[28]? = some ob28 := rfl
theorem sh29 {Ω : List Ob} : (SH Ω)[29]? = some ob29 := rfl
theorem sh30 {Ω : List Ob} : (SH Ω)[30]? = some ob30 := rfl
theorem sh31 {Ω : List Ob} : (SH Ω)[31]? = some ob31 := rfl
theorem sh32 {Ω : List Ob} : (SH Ω)[32]? = some ob32 := rfl
theorem sh33 {Ω : List Ob} : (SH Ω)[33]? = some ob33 := rfl
theorem sh34 {Ω : List Ob} : (SH Ω)[34]? = some ob34 := rfl
theorem sh35 {Ω : List Ob} : (SH Ω)[35]? = some ob35 := rfl
theorem sh36 {Ω : List Ob} : (SH Ω)[36]? = some ob36 := rfl
theorem sh37 {Ω : List Ob} : (SH Ω)[37]? = some ob37 := rfl
theorem sh38 {Ω : List Ob} : (SH Ω)[38]? = some ob38 := rfl
theorem sh39 {Ω : List Ob} : (SH Ω)[39]? = some ob39 := rfl
theorem sh40 {Ω : List Ob} : (SH Ω)[40]? = some ob40 := rfl
theorem sh41 {Ω : List Ob} : (SH Ω)[41]? = some ob41 := rfl
theorem sh42 {Ω : List Ob} : (SH Ω)[42]? = some ob42 := rfl
theorem sh43 {Ω : List Ob} : (SH Ω)[43]? = some ob43 := rfl
theorem sh44 {Ω : List Ob} : (SH Ω)[44]? = some ob44 := rfl
theorem sh45 {Ω : List Ob} : (SH Ω)[45]? = some ob45 := rfl
abbrev mX7_init : MI := (yX7_init, cX7_init, 1, none)
abbrev mX5_init : MI := (yX5_init, cX5_init, 1, none)
abbrev mX7_setIn : MI := (yX7_setIn, cX7_setIn, 3, none)
abbrev mX3_init : MI := (yX3_init, cX3_init, 2, none)
abbrev mX1_init : MI := (yX1_init, cX1_init, 2, none)
abbrev mX0_init : MI := (yX0_init, cX0_init, 2, none)
abbrev mX6_init : MI := (yX6_init, cX6_init, 1, none)
abbrev mX2_init : MI := (yX2_init, cX2_init, 2, none)
abbrev mX4_init : MI := (yX4_init, cX4_init, 1, none)
abbrev mX7_put : MI := (yX7_put, cX7_put, 5, (some .int))
abbrev mX5_hasCell : MI := (yX5_hasCell, cX5_hasCell, 3, (some .boolean))
abbrev mX7_isFromTo : MI := (yX7_isFromTo, cX7_isFromTo, 3, (some .boolean))
abbrev mX2_save : MI := (yX2_save, cX2_save, 3, none)
abbrev mX2_stateAt : MI := (yX2_stateAt, cX2_stateAt, 3, (some (.object "LeastRows$State")))
abbrev mX5_copyFrom : MI := (yX5_copyFrom, cX5_copyFrom, 2, none)
abbrev mX7_copyAll : MI := (yX7_copyAll, cX7_copyAll, 3, none)
abbrev mX5_numberAt : MI := (yX5_numberAt, cX5_numberAt, 4, (some .int))
abbrev mX5_setNumber : MI := (yX5_setNumber, cX5_setNumber, 4, none)
abbrev mX7_points : MI := (yX7_points, cX7_points, 8, (some .int))
abbrev mJ9_min_7cf53 : MI := (yJ9_min_7cf53, cJ9_min_7cf53, 2, (some .int))
abbrev mX3_isKept : MI := (yX3_isKept, cX3_isKept, 1, (some .boolean))
abbrev mX3_examine : MI := (yX3_examine, cX3_examine, 4, none)
abbrev mX3_isGreater : MI := (yX3_isGreater, cX3_isGreater, 4, (some .boolean))
abbrev mX3_note : MI := (yX3_note, cX3_note, 4, none)
abbrev mX7_mend : MI := (yX7_mend, cX7_mend, 2, (some .int))
abbrev mX7_find : MI := (yX7_find, cX7_find, 3, (some .int))
abbrev mX7_isWay : MI := (yX7_isWay, cX7_isWay, 1, (some .boolean))
abbrev mX7_isOpen : MI := (yX7_isOpen, cX7_isOpen, 2, (some .boolean))
abbrev mX1_seek : MI := (yX1_seek, cX1_seek, 3, none)
abbrev mX1_leaveAllColumns : MI := (yX1_leaveAllColumns, cX1_leaveAllColumns, 2, none)
abbrev mX1_halve : MI := (yX1_halve, cX1_halve, 8, none)
abbrev mX1_leftmostLeast : MI := (yX1_leftmostLeast, cX1_leftmostLeast, 11, (some .int))
abbrev mX7_numberIn : MI := (yX7_numberIn, cX7_numberIn, 2, (some .int))
abbrev mX1_columnLeft : MI := (yX1_columnLeft, cX1_columnLeft, 3, (some .int))
abbrev mX1_look : MI := (yX1_look, cX1_look, 3, (some .int))
abbrev mX1_setPlace : MI := (yX1_setPlace, cX1_setPlace, 3, none)
abbrev mX1_pileColumns : MI := (yX1_pileColumns, cX1_pileColumns, 7, none)
abbrev mX1_rowsAt : MI := (yX1_rowsAt, cX1_rowsAt, 2, (some .int))
abbrev mX1_heightAfterThrowing : MI := (yX1_heightAfterThrowing, cX1_heightAfterThrowing, 8, (some .int))
abbrev mX1_rowAt : MI := (yX1_rowAt, cX1_rowAt, 3, (some .int))
abbrev mX1_fillBetween : MI := (yX1_fillBetween, cX1_fillBetween, 7, none)
abbrev mX1_placeBy : MI := (yX1_placeBy, cX1_placeBy, 3, (some .int))
abbrev mX1_lookAtAll : MI := (yX1_lookAtAll, cX1_lookAtAll, 2, none)
abbrev mX1_looksBy : MI := (yX1_looksBy, cX1_looksBy, 2, (some .int))
abbrev mX7_weigh : MI := (yX7_weigh, cX7_weigh, 2, (some .int))
abbrev mX5_addWeight : MI := (yX5_addWeight, cX5_addWeight, 2, none)
abbrev mX7_keep : MI := (yX7_keep, cX7_keep, 2, (some .int))
abbrev mX7_slotAt : MI := (yX7_slotAt, cX7_slotAt, 2, (some (.object "LeastRows$Slot")))
abbrev mX4_fillFrom : MI := (yX4_fillFrom, cX4_fillFrom, 2, none)
abbrev mX7_goBack : MI := (yX7_goBack, cX7_goBack, 3, (some .int))
abbrev mX7_undo : MI := (yX7_undo, cX7_undo, 1, (some .int))
abbrev mX2_latest : MI := (yX2_latest, cX2_latest, 1, (some (.object "LeastRows$State")))
abbrev mX7_count : MI := (yX7_count, cX7_count, 2, (some .int))
abbrev mX7_counted : MI := (yX7_counted, cX7_counted, 2, (some .int))
abbrev mX5_weightsTogether : MI := (yX5_weightsTogether, cX5_weightsTogether, 3, (some .int))
abbrev mX5_weightAt : MI := (yX5_weightAt, cX5_weightAt, 2, (some .int))
abbrev mX1_placesGoneBack : MI := (yX1_placesGoneBack, cX1_placesGoneBack, 3, (some .int))
abbrev mL_part : MI := (yL_part, cL_part, 2, (some .int))
abbrev mL_drawn : MI := (yL_drawn, cL_drawn, 2, (some .int))
abbrev mL_call : MI := (yL_call, cL_call, 7, (some .int))
abbrev mX7_size : MI := (yX7_size, cX7_size, 4, (some .int))
abbrev mX5_sizeCode : MI := (yX5_sizeCode, cX5_sizeCode, 1, (some .int))
abbrev mX7_unweigh : MI := (yX7_unweigh, cX7_unweigh, 1, (some .int))
abbrev mX7_append : MI := (yX7_append, cX7_append, 2, (some .int))
abbrev mX6_add : MI := (yX6_add, cX6_add, 2, none)
abbrev mX7_load : MI := (yX7_load, cX7_load, 3, (some .int))
abbrev mX6_tellsTable : MI := (yX6_tellsTable, cX6_tellsTable, 1, (some .boolean))
abbrev mX6_readToError : MI := (yX6_readToError, cX6_readToError, 2, (some .int))
abbrev mX6_codeAt : MI := (yX6_codeAt, cX6_codeAt, 2, (some .int))
abbrev mX6_takes : MI := (yX6_takes, cX6_takes, 2, (some .boolean))
abbrev mX6_takesDigit : MI := (yX6_takesDigit, cX6_takesDigit, 3, (some .boolean))
abbrev mX6_takesComma : MI := (yX6_takesComma, cX6_takesComma, 1, (some .boolean))
abbrev mX6_takesSlash : MI := (yX6_takesSlash, cX6_takesSlash, 1, (some .boolean))
abbrev mX6_isRowFull : MI := (yX6_isRowFull, cX6_isRowFull, 1, (some .boolean))
abbrev mX6_rowsTold : MI := (yX6_rowsTold, cX6_rowsTold, 1, (some .int))
abbrev mX6_columnsTold : MI := (yX6_columnsTold, cX6_columnsTold, 1, (some .int))
abbrev mX6_numberTold : MI := (yX6_numberTold, cX6_numberTold, 3, (some .int))
abbrev mX6_clear : MI := (yX6_clear, cX6_clear, 1, none)
abbrev mX7_cell : MI := (yX7_cell, cX7_cell, 3, (some .int))
abbrev mX7_place : MI := (yX7_place, cX7_place, 3, (some .int))
abbrev mX7_looks : MI := (yX7_looks, cX7_looks, 2, (some .int))
abbrev mX7_witness : MI := (yX7_witness, cX7_witness, 2, (some .int))
abbrev mX3_told : MI := (yX3_told, cX3_told, 2, (some .int))
abbrev mX7_weight : MI := (yX7_weight, cX7_weight, 2, (some .int))
abbrev mX7_cost : MI := (yX7_cost, cX7_cost, 3, (some .int))
abbrev mX0_planCuts : MI := (yX0_planCuts, cX0_planCuts, 4, none)
abbrev mX0_planLastCut : MI := (yX0_planLastCut, cX0_planLastCut, 9, none)
abbrev mX0_plannedCost : MI := (yX0_plannedCost, cX0_plannedCost, 2, (some .int))
abbrev mX0_tryAllCuts : MI := (yX0_tryAllCuts, cX0_tryAllCuts, 2, none)
abbrev mX0_tryNextPart : MI := (yX0_tryNextPart, cX0_tryNextPart, 7, none)
abbrev mX0_triedCost : MI := (yX0_triedCost, cX0_triedCost, 2, (some .int))
abbrev mX7_cut : MI := (yX7_cut, cX7_cut, 3, (some .int))
abbrev mX0_plannedCut : MI := (yX0_plannedCut, cX0_plannedCut, 5, (some .int))
abbrev mX7_fewestParts : MI := (yX7_fewestParts, cX7_fewestParts, 2, (some .int))
abbrev mX0_fewestPartsFor : MI := (yX0_fewestPartsFor, cX0_fewestPartsFor, 3, (some .int))
abbrev mL_seen : MI := (yL_seen, cL_seen, 4, (some .long))
abbrev mX7_bound : MI := (yX7_bound, cX7_bound, 3, (some .int))
abbrev mL_refused : MI := (yL_refused, cL_refused, 5, (some .boolean))
abbrev mL_refusesOne : MI := (yL_refusesOne, cL_refusesOne, 5, (some .boolean))
abbrev mL_far : MI := (yL_far, cL_far, 3, (some .int))
abbrev mL_small : MI := (yL_small, cL_small, 1, (some .boolean))
abbrev mX7_halfShare : MI := (yX7_halfShare, cX7_halfShare, 1, (some .double))
abbrev mX1_shareOfHalves : MI := (yX1_shareOfHalves, cX1_shareOfHalves, 2, (some .double))
abbrev mL_weights : MI := (yL_weights, cL_weights, 2, (some .boolean))
abbrev mL_texts : MI := (yL_texts, cL_texts, 2, (some .boolean))
abbrev mL_isError : MI := (yL_isError, cL_isError, 6, (some .boolean))
abbrev mX7_clearBuffer : MI := (yX7_clearBuffer, cX7_clearBuffer, 2, (some .int))
abbrev mL_types : MI := (yL_types, cL_types, 6, (some .boolean))
abbrev mX7_firstError : MI := (yX7_firstError, cX7_firstError, 1, (some .int))
theorem svX7_init : SI mX7_init 0 := ⟨rfl, rfl, q19, q1, q20, ⟨by decide +kernel, by decide +kernel, by decide +kernel⟩⟩
theorem svX5_init : SI mX5_init 0 := ⟨rfl, rfl, q27, q2, q28, ⟨by decide +kernel, by decide +kernel, by decide +kernel⟩⟩
theorem svX7_setIn : SS mX7_setIn 3 := ⟨q31, q1, q32, ⟨by decide +kernel, by decide +kernel, by decide +kernel⟩⟩
theorem svX3_init : SI mX3_init 1 := ⟨rfl, rfl, q56, q3, q57, ⟨by decide +kernel, by decide +kernel, by decide +kernel⟩⟩
theorem svX1_init : SI mX1_init 1 := ⟨rfl, rfl, q71, q4, q72, ⟨by decide +kernel, by decide +kernel, by decide +kernel⟩⟩
theorem svX0_init : SI mX0_init 1 := ⟨rfl, rfl, q84, q5, q85, ⟨by decide +kernel, by decide +kernel, by decide +kernel⟩⟩
theorem svX6_init : SI mX6_init 0 := ⟨rfl, rfl, q95, q6, q96, ⟨by decide +kernel, by decide +kernel, by decide +kernel⟩⟩
theorem svX2_init : SI mX2_init 0 := ⟨rfl, rfl, q110, q7, q111, ⟨by decide +kernel, by decide +kernel, by decide +kernel⟩⟩
theorem svX4_init : SI mX4_init 0 := ⟨rfl, rfl, q122, q8, q123, ⟨by decide +kernel, by decide +kernel, by decide +kernel⟩⟩
theorem svX7_put : SV mX7_put 3 := ⟨q140, q141, q1, q142, ⟨by decide +kernel, by decide +kernel, by decide +kernel⟩⟩
theorem svX5_hasCell : SV mX5_hasCell 2 := ⟨q144, q145, q2, q146, ⟨by decide +kernel, by decide +kernel, by decide +kernel⟩⟩
theorem svX7_isFromTo : SS mX7_isFromTo 3 := ⟨q148, q1, q149, ⟨by decide +kernel, by decide +kernel, by decide +kernel⟩⟩
theorem svX2_save : SV mX2_save 1 := ⟨q196, q197, q7, q198, ⟨by decide +kernel, by decide +kernel, by decide +kernel⟩⟩
theorem svX2_stateAt : SV mX2_stateAt 1 := ⟨q200, q618, q7, q201, ⟨by decide +kernel, by decide +kernel, by decide +kernel⟩⟩
theorem svX5_copyFrom : SV mX5_copyFrom 1 := ⟨q203, q204, q2, q205, ⟨by decide +kernel, by decide +kernel, by decide +kernel⟩⟩
theorem svX7_copyAll : SS mX7_copyAll 2 := ⟨q207, q1, q208, ⟨by decide +kernel, by decide +kernel, by decide +kernel⟩⟩
theorem svX5_numberAt : SV mX5_numberAt 2 := ⟨q210, q211, q2, q212, ⟨by decide +kernel, by decide +kernel, by decide +kernel⟩⟩
theorem svX5_setNumber : SV mX5_setNumber 3 := ⟨q214, q215, q2, q216, ⟨by decide +kernel, by decide +kernel, by decide +kernel⟩⟩
theorem svX7_points : SV mX7_points 4 := ⟨q218, q219, q1, q220, ⟨by decide +kernel, by decide +kernel, by decide +kernel⟩⟩
theorem svJ9_min_7cf53 : SS mJ9_min_7cf53 2 := ⟨q222, q14, q223, ⟨by decide +kernel, by decide +kernel, by decide +kernel⟩⟩
theorem svX3_isKept : SV mX3_isKept 0 := ⟨q225, q226, q3, q227, ⟨by decide +kernel, by decide +kernel, by decide +kernel⟩⟩
theorem svX3_examine : SV mX3_examine 0 := ⟨q229, q230, q3, q231, ⟨by decide +kernel, by decide +kernel, by decide +kernel⟩⟩
theorem svX3_isGreater : SV mX3_isGreater 3 := ⟨q233, q619, q3, q234, ⟨by decide +kernel, by decide +kernel, by decide +kernel⟩⟩
theorem svX3_note : SV mX3_note 3 := ⟨q237, q620, q3, q238, ⟨by decide +kernel, by decide +kernel, by decide +kernel⟩⟩
theorem svX7_mend : SV mX7_mend 0 := ⟨q240, q241, q1, q242, ⟨by decide +kernel, by decide +kernel, by decide +kernel⟩⟩
theorem svX7_find : SV mX7_find 1 := ⟨q245, q246, q1, q247, ⟨by decide +kernel, by decide +kernel, by decide +kernel⟩⟩
theorem svX7_isWay : SS mX7_isWay 1 := ⟨q249, q1, q250, ⟨by decide +kernel, by decide +kernel, by decide +kernel⟩⟩
theorem svX7_isOpen : SV mX7_isOpen 1 := ⟨q252, q621, q1, q253, ⟨by decide +kernel, by decide +kernel, by decide +kernel⟩⟩
theorem svX1_seek : SV mX1_seek 1 := ⟨q263, q264, q4, q265, ⟨by decide +kernel, by decide +kernel, by decide +kernel⟩⟩
theorem svX1_leaveAllColumns : SV mX1_leaveAllColumns 0 := ⟨q267, q622, q4, q268, ⟨by decide +kernel, by decide +kernel, by decide +kernel⟩⟩
theorem svX1_halve : SS mX1_halve 6 := ⟨q271, q4, q272, ⟨by decide +kernel, by decide +kernel, by decide +kernel⟩⟩
theorem svX1_leftmostLeast : SV mX1_leftmostLeast 4 := ⟨q274, q623, q4, q275, ⟨by decide +kernel, by decide +kernel, by decide +kernel⟩⟩
theorem svX7_numberIn : SS mX7_numberIn 2 := ⟨q277, q1, q278, ⟨by decide +kernel, by decide +kernel, by decide +kernel⟩⟩
theorem svX1_columnLeft : SV mX1_columnLeft 2 := ⟨q280, q624, q4, q281, ⟨by decide +kernel, by decide +kernel, by decide +kernel⟩⟩
theorem svX1_look : SV mX1_look 2 := ⟨q284, q625, q4, q285, ⟨by decide +kernel, by decide +kernel, by decide +kernel⟩⟩
theorem svX1_setPlace : SV mX1_setPlace 2 := ⟨q288, q626, q4, q289, ⟨by decide +kernel, by decide +kernel, by decide +kernel⟩⟩
theorem svX1_pileColumns : SV mX1_pileColumns 1 := ⟨q291, q627, q4, q292, ⟨by decide +kernel, by decide +kernel, by decide +kernel⟩⟩
theorem svX1_rowsAt : SV mX1_rowsAt 1 := ⟨q294, q628, q4, q295, ⟨by decide +kernel, by decide +kernel, by decide +kernel⟩⟩
theorem svX1_heightAfterThrowing : SV mX1_heightAfterThrowing 3 := ⟨q297, q629, q4, q298, ⟨by decide +kernel, by decide +kernel, by decide +kernel⟩⟩
theorem svX1_rowAt : SV mX1_rowAt 2 := ⟨q300, q630, q4, q301, ⟨by decide +kernel, by decide +kernel, by decide +kernel⟩⟩
theorem svX1_fillBetween : SV mX1_fillBetween 1 := ⟨q303, q631, q4, q304, ⟨by decide +kernel, by decide +kernel, by decide +kernel⟩⟩
theorem svX1_placeBy : SV mX1_placeBy 2 := ⟨q306, q307, q4, q308, ⟨by decide +kernel, by decide +kernel, by decide +kernel⟩⟩
theorem svX1_lookAtAll : SV mX1_lookAtAll 0 := ⟨q310, q632, q4, q311, ⟨by decide +kernel, by decide +kernel, by decide +kernel⟩⟩
theorem svX1_looksBy : SV mX1_looksBy 1 := ⟨q313, q314, q4, q315, ⟨by decide +kernel, by decide +kernel, by decide +kernel⟩⟩
theorem svX7_weigh : SV mX7_weigh 1 := ⟨q317, q318, q1, q319, ⟨by decide +kernel, by decide +kernel, by decide +kernel⟩⟩
theorem svX5_addWeight : SV mX5_addWeight 1 := ⟨q321, q322, q2, q323, ⟨by decide +kernel, by decide +kernel, by decide +kernel⟩⟩
theorem svX7_keep : SV mX7_keep 1 := ⟨q325, q326, q1, q327, ⟨by decide +kernel, by decide +kernel, by decide +kernel⟩⟩
theorem svX7_slotAt : SV mX7_slotAt 1 := ⟨q329, q633, q1, q330, ⟨by decide +kernel, by decide +kernel, by decide +kernel⟩⟩
theorem svX4_fillFrom : SV mX4_fillFrom 1 := ⟨q332, q333, q8, q334, ⟨by decide +kernel, by decide +kernel, by decide +kernel⟩⟩
theorem svX7_goBack : SV mX7_goBack 1 := ⟨q337, q338, q1, q339, ⟨by decide +kernel, by decide +kernel, by decide +kernel⟩⟩
theorem svX7_undo : SV mX7_undo 0 := ⟨q342, q343, q1, q344, ⟨by decide +kernel, by decide +kernel, by decide +kernel⟩⟩
theorem svX2_latest : SV mX2_latest 0 := ⟨q346, q347, q7, q348, ⟨by decide +kernel, by decide +kernel, by decide +kernel⟩⟩
theorem svX7_count : SV mX7_count 1 := ⟨q350, q351, q1, q352, ⟨by decide +kernel, by decide +kernel, by decide +kernel⟩⟩
theorem svX7_counted : SV mX7_counted 1 := ⟨q354, q634, q1, q355, ⟨by decide +kernel, by decide +kernel, by decide +kernel⟩⟩
theorem svX5_weightsTogether : SV mX5_weightsTogether 0 := ⟨q357, q358, q2, q359, ⟨by decide +kernel, by decide +kernel, by decide +kernel⟩⟩
theorem svX5_weightAt : SV mX5_weightAt 1 := ⟨q361, q362, q2, q363, ⟨by decide +kernel, by decide +kernel, by decide +kernel⟩⟩
theorem svX1_placesGoneBack : SV mX1_placesGoneBack 0 := ⟨q366, q367, q4, q368, ⟨by decide +kernel, by decide +kernel, by decide +kernel⟩⟩
theorem svX7_size : SV mX7_size 2 := ⟨q384, q385, q1, q386, ⟨by decide +kernel, by decide +kernel, by decide +kernel⟩⟩
theorem svX5_sizeCode : SV mX5_sizeCode 0 := ⟨q388, q389, q2, q390, ⟨by decide +kernel, by decide +kernel, by decide +kernel⟩⟩
theorem svX7_unweigh : SV mX7_unweigh 0 := ⟨q392, q393, q1, q394, ⟨by decide +kernel, by decide +kernel, by decide +kernel⟩⟩
theorem svX7_append : SV mX7_append 1 := ⟨q397, q398, q1, q399, ⟨by decide +kernel, by decide +kernel, by decide +kernel⟩⟩
theorem svX6_add : SV mX6_add 1 := ⟨q401, q402, q6, q403, ⟨by decide +kernel, by decide +kernel, by decide +kernel⟩⟩
theorem svX7_load : SV mX7_load 0 := ⟨q406, q407, q1, q408, ⟨by decide +kernel, by decide +kernel, by decide +kernel⟩⟩
theorem svX6_tellsTable : SV mX6_tellsTable 0 := ⟨q410, q411, q6, q412, ⟨by decide +kernel, by decide +kernel, by decide +kernel⟩⟩
theorem svX6_readToError : SV mX6_readToError 0 := ⟨q414, q415, q6, q416, ⟨by decide +kernel, by decide +kernel, by decide +kernel⟩⟩
theorem svX6_codeAt : SV mX6_codeAt 1 := ⟨q418, q419, q6, q420, ⟨by decide +kernel, by decide +kernel, by decide +kernel⟩⟩
theorem svX6_takes : SV mX6_takes 1 := ⟨q423, q635, q6, q424, ⟨by decide +kernel, by decide +kernel, by decide +kernel⟩⟩
theorem svX6_takesDigit : SV mX6_takesDigit 1 := ⟨q427, q636, q6, q428, ⟨by decide +kernel, by decide +kernel, by decide +kernel⟩⟩
theorem svX6_takesComma : SV mX6_takesComma 0 := ⟨q430, q637, q6, q431, ⟨by decide +kernel, by decide +kernel, by decide +kernel⟩⟩
theorem svX6_takesSlash : SV mX6_takesSlash 0 := ⟨q433, q638, q6, q434, ⟨by decide +kernel, by decide +kernel, by decide +kernel⟩⟩
theorem svX6_isRowFull : SV mX6_isRowFull 0 := ⟨q436, q639, q6, q437, ⟨by decide +kernel, by decide +kernel, by decide +kernel⟩⟩
theorem svX6_rowsTold : SV mX6_rowsTold 0 := ⟨q439, q440, q6, q441, ⟨by decide +kernel, by decide +kernel, by decide +kernel⟩⟩
theorem svX6_columnsTold : SV mX6_columnsTold 0 := ⟨q443, q444, q6, q445, ⟨by decide +kernel, by decide +kernel, by decide +kernel⟩⟩
theorem svX6_numberTold : SV mX6_numberTold 2 := ⟨q447, q448, q6, q449, ⟨by decide +kernel, by decide +kernel, by decide +kernel⟩⟩
theorem svX6_clear : SV mX6_clear 0 := ⟨q451, q452, q6, q453, ⟨by decide +kernel, by decide +kernel, by decide +kernel⟩⟩
theorem svX7_cell : SV mX7_cell 2 := ⟨q455, q456, q1, q457, ⟨by decide +kernel, by decide +kernel, by decide +kernel⟩⟩
theorem svX7_place : SV mX7_place 2 := ⟨q459, q460, q1, q461, ⟨by decide +kernel, by decide +kernel, by decide +kernel⟩⟩
theorem svX7_looks : SV mX7_looks 1 := ⟨q464, q465, q1, q466, ⟨by decide +kernel, by decide +kernel, by decide +kernel⟩⟩
theorem svX7_witness : SV mX7_witness 1 := ⟨q468, q469, q1, q470, ⟨by decide +kernel, by decide +kernel, by decide +kernel⟩⟩
theorem svX3_told : SV mX3_told 1 := ⟨q472, q473, q3, q474, ⟨by decide +kernel, by decide +kernel, by decide +kernel⟩⟩
theorem svX7_weight : SV mX7_weight 1 := ⟨q476, q477, q1, q478, ⟨by decide +kernel, by decide +kernel, by decide +kernel⟩⟩
theorem svX7_cost : SV mX7_cost 2 := ⟨q480, q481, q1, q482, ⟨by decide +kernel, by decide +kernel, by decide +kernel⟩⟩
theorem svX0_planCuts : SV mX0_planCuts 0 := ⟨q484, q485, q5, q486, ⟨by decide +kernel, by decide +kernel, by decide +kernel⟩⟩
theorem svX0_planLastCut : SV mX0_planLastCut 2 := ⟨q490, q640, q5, q491, ⟨by decide +kernel, by decide +kernel, by decide +kernel⟩⟩
theorem svX0_plannedCost : SV mX0_plannedCost 1 := ⟨q495, q496, q5, q497, ⟨by decide +kernel, by decide +kernel, by decide +kernel⟩⟩
theorem svX0_tryAllCuts : SV mX0_tryAllCuts 0 := ⟨q499, q500, q5, q501, ⟨by decide +kernel, by decide +kernel, by decide +kernel⟩⟩
theorem svX0_tryNextPart : SS mX0_tryNextPart 4 := ⟨q503, q5, q504, ⟨by decide +kernel, by decide +kernel, by decide +kernel⟩⟩
theorem svX0_triedCost : SV mX0_triedCost 1 := ⟨q506, q507, q5, q508, ⟨by decide +kernel, by decide +kernel, by decide +kernel⟩⟩
theorem svX7_cut : SV mX7_cut 2 := ⟨q512, q513, q1, q514, ⟨by decide +kernel, by decide +kernel, by decide +kernel⟩⟩
theorem svX0_plannedCut : SV mX0_plannedCut 2 := ⟨q516, q517, q5, q518, ⟨by decide +kernel, by decide +kernel, by decide +kernel⟩⟩
theorem svX7_fewestParts : SV mX7_fewestParts 1 := ⟨q520, q521, q1, q522, ⟨by decide +kernel, by decide +kernel, by decide +kernel⟩⟩
theorem svX0_fewestPartsFor : SV mX0_fewestPartsFor 1 := ⟨q525, q526, q5, q527, ⟨by decide +kernel, by decide +kernel, by decide +kernel⟩⟩
theorem svX7_bound : SV mX7_bound 0 := ⟨q536, q537, q1, q538, ⟨by decide +kernel, by decide +kernel, by decide +kernel⟩⟩
theorem svX7_halfShare : SV mX7_halfShare 0 := ⟨q554, q555, q1, q556, ⟨by decide +kernel, by decide +kernel, by decide +kernel⟩⟩
theorem svX1_shareOfHalves : SV mX1_shareOfHalves 0 := ⟨q558, q559, q4, q560, ⟨by decide +kernel, by decide +kernel, by decide +kernel⟩⟩
theorem svX7_clearBuffer : SV mX7_clearBuffer 0 := ⟨q578, q579, q1, q580, ⟨by decide +kernel, by decide +kernel, by decide +kernel⟩⟩
theorem svX7_firstError : SV mX7_firstError 0 := ⟨q586, q587, q1, q588, ⟨by decide +kernel, by decide +kernel, by decide +kernel⟩⟩
