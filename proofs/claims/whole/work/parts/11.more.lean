section MORE
variable {G : GT} {M : MI} {R : Room} {E : ET} {Z : ZT} {ex : Bool} {sh : List Ob} {k n : Nat} {pc : Nat} {lv lv' : List (Nat × Value)} {st : List Value} {σ : Sg}
theorem r_dup {v : Value} (hdg : decode M.2.1 pc = .ok (.dup, 1)) (hv : v.category = 1) (kk : Rn G M R E Z ex sh k n (pc + 1) lv (v :: v :: st) σ) : Rn G M R E Z ex sh k n pc lv (v :: st) σ := fun p l e s m args below meth c H locs ls F => lv_dup F.1 F.2.1 hdg hv (kk p l e s m args below meth c H locs ls F)
theorem r_dup2 {v w : Value} (hdg : decode M.2.1 pc = .ok (.dup2, 1)) (hv : v.category = 1) (hw : w.category = 1) (kk : Rn G M R E Z ex sh k n (pc + 1) lv (v :: w :: v :: w :: st) σ) : Rn G M R E Z ex sh k n pc lv (v :: w :: st) σ := fun p l e s m args below meth c H locs ls F => lv_dup2_11 F.1 F.2.1 hdg hv hw (kk p l e s m args below meth c H locs ls F)
theorem r_dup_x1 {v w : Value} (hdg : decode M.2.1 pc = .ok (.dup_x1, 1)) (hv : v.category = 1) (hw : w.category = 1) (kk : Rn G M R E Z ex sh k n (pc + 1) lv (v :: w :: v :: st) σ) : Rn G M R E Z ex sh k n pc lv (v :: w :: st) σ := fun p l e s m args below meth c H locs ls F => lv_dup_x1 F.1 F.2.1 hdg hv hw (kk p l e s m args below meth c H locs ls F)
theorem r_pop {v : Value} (hdg : decode M.2.1 pc = .ok (.pop, 1)) (hv : v.category = 1) (kk : Rn G M R E Z ex sh k n (pc + 1) lv st σ) : Rn G M R E Z ex sh k n pc lv (v :: st) σ := fun p l e s m args below meth c H locs ls F => lv_pop F.1 F.2.1 hdg hv (kk p l e s m args below meth c H locs ls F)
theorem r_ifnull {a : Nat} {off : Int} (hdg : decode M.2.1 pc = .ok (.ifnull off, 3)) (kk : Rn G M R E Z ex sh k n (pc + 3) lv st σ) : Rn G M R E Z ex sh k n pc lv (Rf G a :: st) σ := fun p l e s m args below meth c H locs ls F => lv_ifnull F.1 F.2.1 hdg (kk p l e s m args below meth c H locs ls F)
theorem r_ifnonnull {a tgt : Nat} {off : Int} (hdg : decode M.2.1 pc = .ok (.ifnonnull off, 3)) (ht : (pc : Int) + off = (tgt : Int)) (kk : Rn G M R E Z ex sh k n tgt lv st σ) : Rn G M R E Z ex sh k n pc lv (Rf G a :: st) σ := fun p l e s m args below meth c H locs ls F => lv_ifnonnull F.1 F.2.1 hdg ht (kk p l e s m args below meth c H locs ls F)
theorem r_i2l {x : Int} (hdg : decode M.2.1 pc = .ok (.i2l, 1)) (h : -2147483648 ≤ x ∧ x ≤ 2147483647) (kk : Rn G M R E Z ex sh k n (pc + 1) lv (Lg x :: st) σ) : Rn G M R E Z ex sh k n pc lv (I x :: st) σ := fun p l e s m args below meth c H locs ls F => lv_i2l F.1 F.2.1 hdg (Int32.toInt64_ofInt h.1 h.2) (kk p l e s m args below meth c H locs ls F)
theorem r_ladd {x y : Int} (hdg : decode M.2.1 pc = .ok (.ladd, 1)) (kk : Rn G M R E Z ex sh k n (pc + 1) lv (Lg (x + y) :: st) σ) : Rn G M R E Z ex sh k n pc lv (Lg y :: Lg x :: st) σ := fun p l e s m args below meth c H locs ls F => lv_ladd F.1 F.2.1 hdg (by have h := kk p l e s m args below meth c H locs ls F; rwa [Lg, Int64.ofInt_add] at h)
theorem r_lmul {x y : Int} (hdg : decode M.2.1 pc = .ok (.lmul, 1)) (kk : Rn G M R E Z ex sh k n (pc + 1) lv (Lg (x * y) :: st) σ) : Rn G M R E Z ex sh k n pc lv (Lg y :: Lg x :: st) σ := fun p l e s m args below meth c H locs ls F => lv_lmul F.1 F.2.1 hdg (by have h := kk p l e s m args below meth c H locs ls F; rwa [Lg, Int64.ofInt_mul] at h)
theorem r_i2d {x : Int} (hdg : decode M.2.1 pc = .ok (.i2d, 1)) (kk : Rn G M R E Z ex sh k n (pc + 1) lv (.double (FP.i2d (Int32.ofInt x)) :: st) σ) : Rn G M R E Z ex sh k n pc lv (I x :: st) σ := fun p l e s m args below meth c H locs ls F => lv_i2d F.1 F.2.1 hdg (kk p l e s m args below meth c H locs ls F)
theorem r_ddiv {x y : UInt64} (hdg : decode M.2.1 pc = .ok (.ddiv, 1)) (hn : vf_n64 (FP.ddiv x y)) (kk : Rn G M R E Z ex sh k n (pc + 1) lv (.double (FP.ddiv x y) :: st) σ) : Rn G M R E Z ex sh k n pc lv (.double y :: .double x :: st) σ := fun p l e s m args below meth c H locs ls F => lv_ddiv F.1 F.2.1 hdg hn (kk p l e s m args below meth c H locs ls F)
theorem r_dmul {x y : UInt64} (hdg : decode M.2.1 pc = .ok (.dmul, 1)) (hn : vf_n64 (FP.dmul x y)) (kk : Rn G M R E Z ex sh k n (pc + 1) lv (.double (FP.dmul x y) :: st) σ) : Rn G M R E Z ex sh k n pc lv (.double y :: .double x :: st) σ := fun p l e s m args below meth c H locs ls F => lv_dmul F.1 F.2.1 hdg hn (kk p l e s m args below meth c H locs ls F)
theorem r_dsub {x y : UInt64} (hdg : decode M.2.1 pc = .ok (.dsub, 1)) (hn : vf_n64 (FP.dsub x y)) (kk : Rn G M R E Z ex sh k n (pc + 1) lv (.double (FP.dsub x y) :: st) σ) : Rn G M R E Z ex sh k n pc lv (.double y :: .double x :: st) σ := fun p l e s m args below meth c H locs ls F => lv_dsub F.1 F.2.1 hdg hn (kk p l e s m args below meth c H locs ls F)
theorem r_dcmp {x y : UInt64} {o : CmpOp} {z : Int} (hdg : decode M.2.1 pc = .ok (.dcmp o, 1)) (hz : Op.cmpValue (FP.dcmp x y) o = Int32.ofInt z) (kk : Rn G M R E Z ex sh k n (pc + 1) lv (I z :: st) σ) : Rn G M R E Z ex sh k n pc lv (.double y :: .double x :: st) σ := fun p l e s m args below meth c H locs ls F => lv_dcmp F.1 F.2.1 hdg (by have h := kk p l e s m args below meth c H locs ls F; rwa [I, ← hz] at h)
theorem r_d2l {x : UInt64} {z : Int} (hdg : decode M.2.1 pc = .ok (.d2l, 1)) (hz : FP.d2l x = Int64.ofInt z) (kk : Rn G M R E Z ex sh k n (pc + 1) lv (Lg z :: st) σ) : Rn G M R E Z ex sh k n pc lv (.double x :: st) σ := fun p l e s m args below meth c H locs ls F => lv_d2l F.1 F.2.1 hdg (by have h := kk p l e s m args below meth c H locs ls F; rwa [Lg, ← hz] at h)
def p2 (y : Int) : Int := 2 ^ y.toNat
theorem p2_0 : p2 0 = 1 := rfl
theorem p2_1 : p2 1 = 2 := rfl
theorem p2_2 : p2 2 = 4 := rfl
theorem p2_3 : p2 3 = 8 := rfl
theorem p2_4 : p2 4 = 16 := rfl
theorem oI_nI (n : Nat) : Int32.ofInt (n : Int) = nI n := Int32.ofInt_eq_ofNat
theorem r_ishl {x y : Int} (hdg : decode M.2.1 pc = .ok (.ishl, 1)) (h : 0 ≤ x ∧ x ≤ 1000 ∧ 0 ≤ y ∧ y ≤ 4) (kk : Rn G M R E Z ex sh k n (pc + 1) lv (I (x * p2 y) :: st) σ) : Rn G M R E Z ex sh k n pc lv (I y :: I x :: st) σ := by
  intro p l e s m args below meth c H locs ls F
  refine lv_ishl F.1 F.2.1 hdg ?_
  have h9 := kk p l e s m args below meth c H locs ls F
  obtain ⟨a, rfl⟩ : ∃ a : Nat, x = (a : Int) := ⟨x.toNat, by omega⟩
  have hy : y = 0 ∨ y = 1 ∨ y = 2 ∨ y = 3 ∨ y = 4 := by omega
  have e9 : Int32.ofInt ((a : Int) * p2 y) = Int32.ofInt (a : Int) <<< (Int32.ofInt y &&& 31) := by
    rcases hy with rfl | rfl | rfl | rfl | rfl
    · rw [show (a : Int) * p2 0 = ((a * 2 ^ 0 : Nat) : Int) by rw [p2_0]; omega, oI_nI, oI_nI, ← pk_shlN (Int32.ofInt 0 &&& 31) 0 (by decide) (by omega)]
    · rw [show (a : Int) * p2 1 = ((a * 2 ^ 1 : Nat) : Int) by rw [p2_1]; omega, oI_nI, oI_nI, ← pk_shlN (Int32.ofInt 1 &&& 31) 1 (by decide) (by omega)]
    · rw [show (a : Int) * p2 2 = ((a * 2 ^ 2 : Nat) : Int) by rw [p2_2]; omega, oI_nI, oI_nI, ← pk_shlN (Int32.ofInt 2 &&& 31) 2 (by decide) (by omega)]
    · rw [show (a : Int) * p2 3 = ((a * 2 ^ 3 : Nat) : Int) by rw [p2_3]; omega, oI_nI, oI_nI, ← pk_shlN (Int32.ofInt 3 &&& 31) 3 (by decide) (by omega)]
    · rw [show (a : Int) * p2 4 = ((a * 2 ^ 4 : Nat) : Int) by rw [p2_4]; omega, oI_nI, oI_nI, ← pk_shlN (Int32.ofInt 4 &&& 31) 4 (by decide) (by omega)]
  rwa [I, e9] at h9
theorem r_ishr {x y : Int} (hdg : decode M.2.1 pc = .ok (.ishr, 1)) (h : 0 ≤ x ∧ x ≤ 1000 ∧ 0 ≤ y ∧ y ≤ 4) (kk : Rn G M R E Z ex sh k n (pc + 1) lv (I (x / p2 y) :: st) σ) : Rn G M R E Z ex sh k n pc lv (I y :: I x :: st) σ := by
  intro p l e s m args below meth c H locs ls F
  refine lv_ishr F.1 F.2.1 hdg ?_
  have h9 := kk p l e s m args below meth c H locs ls F
  obtain ⟨a, rfl⟩ : ∃ a : Nat, x = (a : Int) := ⟨x.toNat, by omega⟩
  have hy : y = 0 ∨ y = 1 ∨ y = 2 ∨ y = 3 ∨ y = 4 := by omega
  have e9 : Int32.ofInt ((a : Int) / p2 y) = Int32.ofInt (a : Int) >>> (Int32.ofInt y &&& 31) := by
    rcases hy with rfl | rfl | rfl | rfl | rfl
    · rw [show (a : Int) / p2 0 = ((a / 2 ^ 0 : Nat) : Int) by rw [p2_0]; omega, oI_nI, oI_nI, ← pk_shrN (by omega) (Int32.ofInt 0 &&& 31) 0 (by decide)]
    · rw [show (a : Int) / p2 1 = ((a / 2 ^ 1 : Nat) : Int) by rw [p2_1]; omega, oI_nI, oI_nI, ← pk_shrN (by omega) (Int32.ofInt 1 &&& 31) 1 (by decide)]
    · rw [show (a : Int) / p2 2 = ((a / 2 ^ 2 : Nat) : Int) by rw [p2_2]; omega, oI_nI, oI_nI, ← pk_shrN (by omega) (Int32.ofInt 2 &&& 31) 2 (by decide)]
    · rw [show (a : Int) / p2 3 = ((a / 2 ^ 3 : Nat) : Int) by rw [p2_3]; omega, oI_nI, oI_nI, ← pk_shrN (by omega) (Int32.ofInt 3 &&& 31) 3 (by decide)]
    · rw [show (a : Int) / p2 4 = ((a / 2 ^ 4 : Nat) : Int) by rw [p2_4]; omega, oI_nI, oI_nI, ← pk_shrN (by omega) (Int32.ofInt 4 &&& 31) 4 (by decide)]
  rwa [I, e9] at h9
theorem r_putZ {a ci j N idx : Nat} {z w : Int} {fks : List FK} {C : String} {T : u_T} (ty0 : Nat → FieldType) (hdg : decode M.2.1 pc = .ok (.putfield idx, 3)) (hs : sh[a]? = some (.inl (ci, fks))) (hf : fks[j]? = some (.inl false)) (hc : vwCl[ci]? = some (C, T, N)) (hj : j < N) (hz : (j : Int) = z)
    (hty : ∀ k, k < N → parseFieldDescriptor (T k).2.2.1 = some (ty0 k)) (hnm : ∀ a, a < N → ∀ b, b < N → a ≠ b → (T a).2.1 ≠ (T b).2.1)
    (hin : ∀ w ∈ u_ws C T N, w ∈ TBG) (hlink : Cond.fieldLink M.1.cls idx C (T j).2.1 (T j).2.2.1 ∈ TBG) (hC : C = (T j).1) (hfin : (T j).2.2.2 = false) (hty1 : ty0 j = .boolean) (hn : narrow .boolean (I w) = I w) (hft : fits .boolean (I w) = true)
    (kk : Rn G M R E Z ex sh k n (pc + 3) lv st (up σ a z w)) : Rn G M R E Z ex sh k n pc lv (I w :: Rf G a :: st) σ := by
  refine r_putf (fk1 := .inl false) ty0 hdg hs hf hc hj hz hty hnm hin hlink hC hfin hty1 rfl hn hft ?_
  rw [fk_same hf, set_same hs]
  exact kk
theorem r_tableIn {dflt lo hi : Int} {offs : Array Int} {len : Nat} {x off : Int} {tgt : Nat} (hdg : decode M.2.1 pc = .ok (.tableswitch dflt lo hi offs, len)) (h : -2147483648 ≤ x ∧ x ≤ 2147483647 ∧ lo ≤ x ∧ x ≤ hi) (ho : offs[(x - lo).toNat]? = some off) (ht : (pc : Int) + off = (tgt : Int))
    (kk : Rn G M R E Z ex sh k n tgt lv st σ) : Rn G M R E Z ex sh k n pc lv (I x :: st) σ := fun p l e s m args below meth c H locs ls F => lv_tableIn F.1 F.2.1 hdg (by rw [oI h.1 h.2.1]; omega) (by rw [oI h.1 h.2.1]; omega) (by rw [oI h.1 h.2.1]; exact ho) ht (kk p l e s m args below meth c H locs ls F)
theorem r_tableOut {dflt lo hi : Int} {offs : Array Int} {len : Nat} {x : Int} {tgt : Nat} (hdg : decode M.2.1 pc = .ok (.tableswitch dflt lo hi offs, len)) (h : -2147483648 ≤ x ∧ x ≤ 2147483647 ∧ (x < lo ∨ hi < x)) (ht : (pc : Int) + dflt = (tgt : Int))
    (kk : Rn G M R E Z ex sh k n tgt lv st σ) : Rn G M R E Z ex sh k n pc lv (I x :: st) σ := fun p l e s m args below meth c H locs ls F => lv_tableOut F.1 F.2.1 hdg (by rw [oI h.1 h.2.1]; exact h.2.2) ht (kk p l e s m args below meth c H locs ls F)
end MORE
def svd : Nat → Option Nat := fun i => bif Nat.blt i 6 then some (20 + 3 * i) else none
abbrev ob0 : Ob := .inl (7, [.inr (some 1), .inr (some 4), .inr (some 5), .inr (some 10), .inr (some 15), .inr (some 18), .inr (some 38), .inr (some 42)])
abbrev ob1 : Ob := .inl (5, [.inl false, .inl false, .inl false, .inl false, .inl false, .inl false, .inr (some 2), .inr (some 3)])
abbrev ob2 : Ob := .inr (.inl 100)
abbrev ob3 : Ob := .inr (.inl 10)
abbrev ob4 : Ob := .inl (3, [.inl false, .inl false, .inl false, .inl false, .inr (some 1)])
abbrev ob5 : Ob := .inl (1, [.inr (some 1), .inr (some 6), .inr (some 7), .inr (some 8), .inr (some 9), .inl false, .inl false])
abbrev ob6 : Ob := .inr (.inl 30)
abbrev ob7 : Ob := .inr (.inl 3)
abbrev ob8 : Ob := .inr (.inl 50)
abbrev ob9 : Ob := .inr (.inl 5)
abbrev ob10 : Ob := .inl (0, [.inr (some 1), .inr (some 11), .inr (some 12), .inr (some 13), .inr (some 14)])
abbrev ob11 : Ob := .inr (.inl 121)
abbrev ob12 : Ob := .inr (.inl 121)
abbrev ob13 : Ob := .inr (.inl 11)
abbrev ob14 : Ob := .inr (.inl 11)
abbrev ob15 : Ob := .inl (6, [.inl false, .inr (some 16), .inr (some 17), .inl false, .inl false, .inl false, .inl false, .inl false])
abbrev ob16 : Ob := .inr (.inl 60)
abbrev ob17 : Ob := .inr (.inl 100)
abbrev ob18 : Ob := .inl (2, [.inl false, .inl false, .inr (some 19)])
abbrev ob19 : Ob := .inr (.inr (.inr (6, svd)))
abbrev ob20 : Ob := .inl (5, [.inl false, .inl false, .inl false, .inl false, .inl false, .inl false, .inr (some 21), .inr (some 22)])
abbrev ob21 : Ob := .inr (.inl 100)
abbrev ob22 : Ob := .inr (.inl 10)
abbrev ob23 : Ob := .inl (5, [.inl false, .inl false, .inl false, .inl false, .inl false, .inl false, .inr (some 24), .inr (some 25)])
abbrev ob24 : Ob := .inr (.inl 100)
abbrev ob25 : Ob := .inr (.inl 10)
abbrev ob26 : Ob := .inl (5, [.inl false, .inl false, .inl false, .inl false, .inl false, .inl false, .inr (some 27), .inr (some 28)])
abbrev ob27 : Ob := .inr (.inl 100)
abbrev ob28 : Ob := .inr (.inl 10)
abbrev ob29 : Ob := .inl (5, [.inl false, .inl false, .inl false, .inl false, .inl false, .inl false, .inr (some 30), .inr (some 31)])
abbrev ob30 : Ob := .inr (.inl 100)
abbrev ob31 : Ob := .inr (.inl 10)
abbrev ob32 : Ob := .inl (5, [.inl false, .inl false, .inl false, .inl false, .inl false, .inl false, .inr (some 33), .inr (some 34)])
abbrev ob33 : Ob := .inr (.inl 100)
abbrev ob34 : Ob := .inr (.inl 10)
abbrev ob35 : Ob := .inl (5, [.inl false, .inl false, .inl false, .inl false, .inl false, .inl false, .inr (some 36), .inr (some 37)])
abbrev ob36 : Ob := .inr (.inl 100)
abbrev ob37 : Ob := .inr (.inl 10)
abbrev ob38 : Ob := .inl (4, [.inl false, .inr (some 39)])
abbrev ob39 : Ob := .inl (5, [.inl false, .inl false, .inl false, .inl false, .inl false, .inl false, .inr (some 40), .inr (some 41)])
abbrev ob40 : Ob := .inr (.inl 100)
abbrev ob41 : Ob := .inr (.inl 10)
abbrev ob42 : Ob := .inl (4, [.inl false, .inr (some 43)])
abbrev ob43 : Ob := .inl (5, [.inl false, .inl false, .inl false, .inl false, .inl false, .inl false, .inr (some 44), .inr (some 45)])
abbrev ob44 : Ob := .inr (.inl 100)
abbrev ob45 : Ob := .inr (.inl 10)
abbrev ob46 : Ob := .inl (8, [.inr (some 47), .inr (some 48), .inl false, .inr (some 49), .inr (some 50), .inr (some 51), .inl false, .inl false, .inr (some 52), .inl false, .inr (some 53), .inl false, .inr (some 54), .inr (some 55), .inl false, .inr (some 56), .inl false, .inl false, .inr (some 57), .inr (some 58), .inl true])
abbrev ob47 : Ob := .inr (.inl 116)
abbrev ob48 : Ob := .inr (.inl 696)
abbrev ob49 : Ob := .inr (.inl 232)
abbrev ob50 : Ob := .inr (.inl 2)
abbrev ob51 : Ob := .inr (.inl 60)
abbrev ob52 : Ob := .inr (.inl 10)
abbrev ob53 : Ob := .inr (.inl 48)
abbrev ob54 : Ob := .inr (.inl 50)
abbrev ob55 : Ob := .inr (.inl 5)
abbrev ob56 : Ob := .inr (.inl 100)
abbrev ob57 : Ob := .inr (.inl 121)
abbrev ob58 : Ob := .inr (.inl 121)
abbrev ob59 : Ob := .inr (.inr (.inl 1))
def SH : List Ob := [ob0, ob1, ob2, ob3, ob4, ob5, ob6, ob7, ob8, ob9, ob10, ob11, ob12, ob13, ob14, ob15, ob16, ob17, ob18, ob19, ob20, ob21, ob22, ob23, ob24, ob25, ob26, ob27, ob28, ob29, ob30, ob31, ob32, ob33, ob34, ob35, ob36, ob37, ob38, ob39, ob40, ob41, ob42, ob43, ob44, ob45, ob46, ob47, ob48, ob49, ob50, ob51, ob52, ob53, ob54, ob55, ob56, ob57, ob58, ob59]
theorem sh0 : SH[0]? = some ob0 := rfl
theorem sh1 : SH[1]? = some ob1 := rfl
theorem sh2 : SH[2]? = some ob2 := rfl
theorem sh3 : SH[3]? = some ob3 := rfl
theorem sh4 : SH[4]? = some ob4 := rfl
theorem sh5 : SH[5]? = some ob5 := rfl
theorem sh6 : SH[6]? = some ob6 := rfl
theorem sh7 : SH[7]? = some ob7 := rfl
theorem sh8 : SH[8]? = some ob8 := rfl
theorem sh9 : SH[9]? = some ob9 := rfl
theorem sh10 : SH[10]? = some ob10 := rfl
theorem sh11 : SH[11]? = some ob11 := rfl
theorem sh12 : SH[12]? = some ob12 := rfl
theorem sh13 : SH[13]? = some ob13 := rfl
theorem sh14 : SH[14]? = some ob14 := rfl
theorem sh15 : SH[15]? = some ob15 := rfl
theorem sh16 : SH[16]? = some ob16 := rfl
theorem sh17 : SH[17]? = some ob17 := rfl
theorem sh18 : SH[18]? = some ob18 := rfl
theorem sh19 : SH[19]? = some ob19 := rfl
theorem sh20 : SH[20]? = some ob20 := rfl
theorem sh21 : SH[21]? = some ob21 := rfl
theorem sh22 : SH[22]? = some ob22 := rfl
theorem sh23 : SH[23]? = some ob23 := rfl
theorem sh24 : SH[24]? = some ob24 := rfl
theorem sh25 : SH[25]? = some ob25 := rfl
theorem sh26 : SH[26]? = some ob26 := rfl
theorem sh27 : SH[27]? = some ob27 := rfl
theorem sh28 : SH[28]? = some ob28 := rfl
theorem sh29 : SH[29]? = some ob29 := rfl
theorem sh30 : SH[30]? = some ob30 := rfl
theorem sh31 : SH[31]? = some ob31 := rfl
theorem sh32 : SH[32]? = some ob32 := rfl
theorem sh33 : SH[33]? = some ob33 := rfl
theorem sh34 : SH[34]? = some ob34 := rfl
theorem sh35 : SH[35]? = some ob35 := rfl
theorem sh36 : SH[36]? = some ob36 := rfl
theorem sh37 : SH[37]? = some ob37 := rfl
theorem sh38 : SH[38]? = some ob38 := rfl
theorem sh39 : SH[39]? = some ob39 := rfl
theorem sh40 : SH[40]? = some ob40 := rfl
theorem sh41 : SH[41]? = some ob41 := rfl
theorem sh42 : SH[42]? = some ob42 := rfl
theorem sh43 : SH[43]? = some ob43 := rfl
theorem sh44 : SH[44]? = some ob44 := rfl
theorem sh45 : SH[45]? = some ob45 := rfl
theorem sh46 : SH[46]? = some ob46 := rfl
theorem sh47 : SH[47]? = some ob47 := rfl
theorem sh48 : SH[48]? = some ob48 := rfl
theorem sh49 : SH[49]? = some ob49 := rfl
theorem sh50 : SH[50]? = some ob50 := rfl
theorem sh51 : SH[51]? = some ob51 := rfl
theorem sh52 : SH[52]? = some ob52 := rfl
theorem sh53 : SH[53]? = some ob53 := rfl
theorem sh54 : SH[54]? = some ob54 := rfl
theorem sh55 : SH[55]? = some ob55 := rfl
theorem sh56 : SH[56]? = some ob56 := rfl
theorem sh57 : SH[57]? = some ob57 := rfl
theorem sh58 : SH[58]? = some ob58 := rfl
theorem sh59 : SH[59]? = some ob59 := rfl
abbrev mX7_init : MI := (yX7_init, cX7_init, 1, none)
abbrev mX5_init : MI := (yX5_init, cX5_init, 1, none)
abbrev mX7_setIn : MI := (yX7_setIn, cX7_setIn, 3, none)
abbrev mX3_init : MI := (yX3_init, cX3_init, 2, none)
abbrev mX1_init : MI := (yX1_init, cX1_init, 2, none)
abbrev mX0_init : MI := (yX0_init, cX0_init, 2, none)
abbrev mX6_init : MI := (yX6_init, cX6_init, 1, none)
abbrev mX2_init : MI := (yX2_init, cX2_init, 2, none)
abbrev mX4_init : MI := (yX4_init, cX4_init, 1, none)
abbrev mX7_mend : MI := (yX7_mend, cX7_mend, 2, (some .int))
abbrev mX2_save : MI := (yX2_save, cX2_save, 3, none)
abbrev mX2_stateAt : MI := (yX2_stateAt, cX2_stateAt, 3, (some (.object "LeastRows$State")))
abbrev mX5_copyFrom : MI := (yX5_copyFrom, cX5_copyFrom, 2, none)
abbrev mX7_copyAll : MI := (yX7_copyAll, cX7_copyAll, 3, none)
abbrev mX3_examine : MI := (yX3_examine, cX3_examine, 4, none)
abbrev mX3_isGreater : MI := (yX3_isGreater, cX3_isGreater, 4, (some .boolean))
abbrev mX5_numberAt : MI := (yX5_numberAt, cX5_numberAt, 4, (some .int))
abbrev mX3_note : MI := (yX3_note, cX3_note, 4, none)
abbrev mX5_setNumber : MI := (yX5_setNumber, cX5_setNumber, 4, none)
abbrev mX7_clearBuffer : MI := (yX7_clearBuffer, cX7_clearBuffer, 2, (some .int))
abbrev mX6_clear : MI := (yX6_clear, cX6_clear, 1, none)
abbrev mX7_firstError : MI := (yX7_firstError, cX7_firstError, 1, (some .int))
abbrev mX6_readToError : MI := (yX6_readToError, cX6_readToError, 2, (some .int))
abbrev mX6_codeAt : MI := (yX6_codeAt, cX6_codeAt, 2, (some .int))
abbrev mX7_numberIn : MI := (yX7_numberIn, cX7_numberIn, 2, (some .int))
abbrev mX6_takes : MI := (yX6_takes, cX6_takes, 2, (some .boolean))
abbrev mX7_isFromTo : MI := (yX7_isFromTo, cX7_isFromTo, 3, (some .boolean))
abbrev mX6_takesDigit : MI := (yX6_takesDigit, cX6_takesDigit, 3, (some .boolean))
abbrev mX6_takesComma : MI := (yX6_takesComma, cX6_takesComma, 1, (some .boolean))
abbrev mX6_takesSlash : MI := (yX6_takesSlash, cX6_takesSlash, 1, (some .boolean))
abbrev mX6_isRowFull : MI := (yX6_isRowFull, cX6_isRowFull, 1, (some .boolean))
abbrev mX7_bound : MI := (yX7_bound, cX7_bound, 3, (some .int))
abbrev mX7_halfShare : MI := (yX7_halfShare, cX7_halfShare, 1, (some .double))
abbrev mX3_isKept : MI := (yX3_isKept, cX3_isKept, 1, (some .boolean))
abbrev mX1_seek : MI := (yX1_seek, cX1_seek, 3, none)
abbrev mX1_leaveAllColumns : MI := (yX1_leaveAllColumns, cX1_leaveAllColumns, 2, none)
abbrev mX1_halve : MI := (yX1_halve, cX1_halve, 8, none)
abbrev mX1_leftmostLeast : MI := (yX1_leftmostLeast, cX1_leftmostLeast, 11, (some .int))
abbrev mX1_columnLeft : MI := (yX1_columnLeft, cX1_columnLeft, 3, (some .int))
abbrev mX1_look : MI := (yX1_look, cX1_look, 3, (some .int))
abbrev mX1_setPlace : MI := (yX1_setPlace, cX1_setPlace, 3, none)
abbrev mX1_pileColumns : MI := (yX1_pileColumns, cX1_pileColumns, 7, none)
abbrev mX1_rowsAt : MI := (yX1_rowsAt, cX1_rowsAt, 2, (some .int))
abbrev mX1_heightAfterThrowing : MI := (yX1_heightAfterThrowing, cX1_heightAfterThrowing, 8, (some .int))
abbrev mX1_rowAt : MI := (yX1_rowAt, cX1_rowAt, 3, (some .int))
abbrev mX1_fillBetween : MI := (yX1_fillBetween, cX1_fillBetween, 7, none)
abbrev mX1_placeBy : MI := (yX1_placeBy, cX1_placeBy, 3, (some .int))
abbrev mX1_lookAtAll : MI := (yX1_lookAtAll, cX1_lookAtAll, 2, none)
abbrev mX1_shareOfHalves : MI := (yX1_shareOfHalves, cX1_shareOfHalves, 2, (some .double))
abbrev mX1_looksBy : MI := (yX1_looksBy, cX1_looksBy, 2, (some .int))
abbrev mX7_digest : MI := (yX7_digest, cX7_digest, 4, (some .long))
abbrev mX7_counted : MI := (yX7_counted, cX7_counted, 2, (some .int))
abbrev mX5_weightsTogether : MI := (yX5_weightsTogether, cX5_weightsTogether, 3, (some .int))
abbrev mX5_weightAt : MI := (yX5_weightAt, cX5_weightAt, 2, (some .int))
abbrev mX1_placesGoneBack : MI := (yX1_placesGoneBack, cX1_placesGoneBack, 3, (some .int))
abbrev mX7_mixed : MI := (yX7_mixed, cX7_mixed, 4, (some .long))
abbrev mX7_mixedCells : MI := (yX7_mixedCells, cX7_mixedCells, 7, (some .long))
abbrev mX7_seekByAllWays : MI := (yX7_seekByAllWays, cX7_seekByAllWays, 2, none)
abbrev mX1_tellNothing : MI := (yX1_tellNothing, cX1_tellNothing, 3, none)
abbrev mX7_mixedPlaces : MI := (yX7_mixedPlaces, cX7_mixedPlaces, 7, (some .long))
abbrev mX3_told : MI := (yX3_told, cX3_told, 2, (some .int))
abbrev mX7_mixedWeights : MI := (yX7_mixedWeights, cX7_mixedWeights, 7, (some .long))
abbrev mX0_planCuts : MI := (yX0_planCuts, cX0_planCuts, 4, none)
abbrev mX0_planLastCut : MI := (yX0_planLastCut, cX0_planLastCut, 9, none)
abbrev mX0_tryAllCuts : MI := (yX0_tryAllCuts, cX0_tryAllCuts, 2, none)
abbrev mX0_tryNextPart : MI := (yX0_tryNextPart, cX0_tryNextPart, 7, none)
abbrev mX0_triedCost : MI := (yX0_triedCost, cX0_triedCost, 2, (some .int))
abbrev mJ9_min_7cf53 : MI := (yJ9_min_7cf53, cJ9_min_7cf53, 2, (some .int))
abbrev mX0_plannedCost : MI := (yX0_plannedCost, cX0_plannedCost, 2, (some .int))
abbrev mX0_plannedCut : MI := (yX0_plannedCut, cX0_plannedCut, 5, (some .int))
abbrev mX0_fewestPartsFor : MI := (yX0_fewestPartsFor, cX0_fewestPartsFor, 3, (some .int))
abbrev mX7_bitsOf : MI := (yX7_bitsOf, cX7_bitsOf, 8, (some .long))
abbrev mL_size : MI := (yL_size, cL_size, 5, (some .int))
abbrev mX7_size : MI := (yX7_size, cX7_size, 4, (some .int))
abbrev mX5_sizeCode : MI := (yX5_sizeCode, cX5_sizeCode, 1, (some .int))
abbrev mL_put : MI := (yL_put, cL_put, 6, (some .int))
abbrev mX7_put : MI := (yX7_put, cX7_put, 5, (some .int))
abbrev mX5_hasCell : MI := (yX5_hasCell, cX5_hasCell, 3, (some .boolean))
abbrev mL_points : MI := (yL_points, cL_points, 7, (some .int))
abbrev mX7_points : MI := (yX7_points, cX7_points, 8, (some .int))
abbrev mL_find : MI := (yL_find, cL_find, 4, (some .int))
abbrev mX7_find : MI := (yX7_find, cX7_find, 3, (some .int))
abbrev mX7_isWay : MI := (yX7_isWay, cX7_isWay, 1, (some .boolean))
abbrev mX7_isOpen : MI := (yX7_isOpen, cX7_isOpen, 2, (some .boolean))
abbrev mL_weigh : MI := (yL_weigh, cL_weigh, 4, (some .int))
abbrev mX7_weigh : MI := (yX7_weigh, cX7_weigh, 2, (some .int))
abbrev mX5_addWeight : MI := (yX5_addWeight, cX5_addWeight, 2, none)
abbrev mL_unweigh : MI := (yL_unweigh, cL_unweigh, 3, (some .int))
abbrev mX7_unweigh : MI := (yX7_unweigh, cX7_unweigh, 1, (some .int))
abbrev mL_append : MI := (yL_append, cL_append, 4, (some .int))
abbrev mX7_append : MI := (yX7_append, cX7_append, 2, (some .int))
abbrev mX6_add : MI := (yX6_add, cX6_add, 2, none)
abbrev mL_load : MI := (yL_load, cL_load, 3, (some .int))
abbrev mX7_load : MI := (yX7_load, cX7_load, 3, (some .int))
abbrev mX6_tellsTable : MI := (yX6_tellsTable, cX6_tellsTable, 1, (some .boolean))
abbrev mX6_rowsTold : MI := (yX6_rowsTold, cX6_rowsTold, 1, (some .int))
abbrev mX6_columnsTold : MI := (yX6_columnsTold, cX6_columnsTold, 1, (some .int))
abbrev mX6_numberTold : MI := (yX6_numberTold, cX6_numberTold, 3, (some .int))
abbrev mL_keep : MI := (yL_keep, cL_keep, 4, (some .int))
abbrev mX7_keep : MI := (yX7_keep, cX7_keep, 2, (some .int))
abbrev mX7_slotAt : MI := (yX7_slotAt, cX7_slotAt, 2, (some (.object "LeastRows$Slot")))
abbrev mX4_fillFrom : MI := (yX4_fillFrom, cX4_fillFrom, 2, none)
abbrev mL_goBack : MI := (yL_goBack, cL_goBack, 4, (some .int))
abbrev mX7_goBack : MI := (yX7_goBack, cX7_goBack, 3, (some .int))
abbrev mL_undo : MI := (yL_undo, cL_undo, 3, (some .int))
abbrev mX7_undo : MI := (yX7_undo, cX7_undo, 1, (some .int))
abbrev mX2_latest : MI := (yX2_latest, cX2_latest, 1, (some (.object "LeastRows$State")))
abbrev mL_cell : MI := (yL_cell, cL_cell, 5, (some .int))
abbrev mX7_cell : MI := (yX7_cell, cX7_cell, 3, (some .int))
abbrev mL_place : MI := (yL_place, cL_place, 5, (some .int))
abbrev mX7_place : MI := (yX7_place, cX7_place, 3, (some .int))
abbrev mL_looks : MI := (yL_looks, cL_looks, 4, (some .int))
abbrev mX7_looks : MI := (yX7_looks, cX7_looks, 2, (some .int))
abbrev mL_witness : MI := (yL_witness, cL_witness, 4, (some .int))
abbrev mX7_witness : MI := (yX7_witness, cX7_witness, 2, (some .int))
abbrev mL_count : MI := (yL_count, cL_count, 4, (some .int))
abbrev mX7_count : MI := (yX7_count, cX7_count, 2, (some .int))
abbrev mL_weight : MI := (yL_weight, cL_weight, 4, (some .int))
abbrev mX7_weight : MI := (yX7_weight, cX7_weight, 2, (some .int))
abbrev mL_cost : MI := (yL_cost, cL_cost, 5, (some .int))
abbrev mX7_cost : MI := (yX7_cost, cX7_cost, 3, (some .int))
abbrev mL_cut : MI := (yL_cut, cL_cut, 5, (some .int))
abbrev mX7_cut : MI := (yX7_cut, cX7_cut, 3, (some .int))
abbrev mL_fewestParts : MI := (yL_fewestParts, cL_fewestParts, 4, (some .int))
abbrev mX7_fewestParts : MI := (yX7_fewestParts, cX7_fewestParts, 2, (some .int))
abbrev mX8_init : MI := (yX8_init, cX8_init, 1, none)
abbrev mX8_thrown : MI := (yX8_thrown, cX8_thrown, 1, (some .int))
abbrev mX8_size : MI := (yX8_size, cX8_size, 4, (some .int))
abbrev mX8_in : MI := (yX8_in, cX8_in, 3, (some .boolean))
abbrev mX8_refuses : MI := (yX8_refuses, cX8_refuses, 2, (some .int))
abbrev mX8_saves : MI := (yX8_saves, cX8_saves, 2, none)
abbrev mX8_lays : MI := (yX8_lays, cX8_lays, 5, none)
abbrev mX8_put : MI := (yX8_put, cX8_put, 5, (some .int))
abbrev mX8_isCell : MI := (yX8_isCell, cX8_isCell, 3, (some .boolean))
abbrev mX8_isRow : MI := (yX8_isRow, cX8_isRow, 2, (some .boolean))
abbrev mX8_at : MI := (yX8_at, cX8_at, 3, (some .int))
abbrev mX8_becomes : MI := (yX8_becomes, cX8_becomes, 4, none)
abbrev mX8_points : MI := (yX8_points, cX8_points, 7, (some .int))
abbrev mX8_isKeeping : MI := (yX8_isKeeping, cX8_isKeeping, 1, (some .boolean))
abbrev mX8_first : MI := (yX8_first, cX8_first, 4, (some .int))
abbrev mX8_isAgainst : MI := (yX8_isAgainst, cX8_isAgainst, 4, (some .boolean))
abbrev mX8_mend : MI := (yX8_mend, cX8_mend, 4, (some .int))
abbrev mX8_find : MI := (yX8_find, cX8_find, 2, (some .int))
abbrev mX8_canGo : MI := (yX8_canGo, cX8_canGo, 2, (some .boolean))
abbrev mX8_finds : MI := (yX8_finds, cX8_finds, 2, none)
abbrev mX8_byAll : MI := (yX8_byAll, cX8_byAll, 2, none)
abbrev mX8_least : MI := (yX8_least, cX8_least, 6, (some .int))
abbrev mX8_byHalves : MI := (yX8_byHalves, cX8_byHalves, 6, none)
abbrev mX8_opens : MI := (yX8_opens, cX8_opens, 5, none)
abbrev mX8_byThrowing : MI := (yX8_byThrowing, cX8_byThrowing, 2, none)
abbrev mX8_throwsOut : MI := (yX8_throwsOut, cX8_throwsOut, 5, none)
abbrev mX8_piles : MI := (yX8_piles, cX8_piles, 8, (some .int))
abbrev mX8_rowAt : MI := (yX8_rowAt, cX8_rowAt, 2, (some .int))
abbrev mX8_fills : MI := (yX8_fills, cX8_fills, 7, none)
abbrev mX8_leastLeft : MI := (yX8_leastLeft, cX8_leastLeft, 8, (some .int))
abbrev mX8_weigh : MI := (yX8_weigh, cX8_weigh, 2, (some .int))
abbrev mX8_unweigh : MI := (yX8_unweigh, cX8_unweigh, 2, (some .int))
abbrev mX8_append : MI := (yX8_append, cX8_append, 2, (some .int))
abbrev mX8_clearBuffer : MI := (yX8_clearBuffer, cX8_clearBuffer, 2, (some .int))
abbrev mX8_firstError : MI := (yX8_firstError, cX8_firstError, 1, (some .int))
abbrev mX8_isWhole : MI := (yX8_isWhole, cX8_isWhole, 3, (some .boolean))
abbrev mX8_isLine : MI := (yX8_isLine, cX8_isLine, 5, (some .int))
abbrev mX8_isNumber : MI := (yX8_isNumber, cX8_isNumber, 4, (some .boolean))
abbrev mX8_sees : MI := (yX8_sees, cX8_sees, 3, (some .boolean))
abbrev mX8_takes : MI := (yX8_takes, cX8_takes, 3, (some .boolean))
abbrev mX8_load : MI := (yX8_load, cX8_load, 2, (some .int))
abbrev mX8_keep : MI := (yX8_keep, cX8_keep, 2, (some .int))
abbrev mX8_goBack : MI := (yX8_goBack, cX8_goBack, 2, (some .int))
abbrev mX8_undo : MI := (yX8_undo, cX8_undo, 1, (some .int))
abbrev mX8_cell : MI := (yX8_cell, cX8_cell, 3, (some .int))
abbrev mX8_place : MI := (yX8_place, cX8_place, 3, (some .int))
abbrev mX8_placeBy : MI := (yX8_placeBy, cX8_placeBy, 3, (some .int))
abbrev mX8_looks : MI := (yX8_looks, cX8_looks, 2, (some .int))
abbrev mX8_looksBy : MI := (yX8_looksBy, cX8_looksBy, 2, (some .int))
abbrev mX8_bound : MI := (yX8_bound, cX8_bound, 1, (some .int))
abbrev mX8_bounds : MI := (yX8_bounds, cX8_bounds, 3, (some .int))
abbrev mX8_witness : MI := (yX8_witness, cX8_witness, 2, (some .int))
abbrev mX8_testified : MI := (yX8_testified, cX8_testified, 3, (some .int))
abbrev mX8_witnesses : MI := (yX8_witnesses, cX8_witnesses, 5, (some .int))
abbrev mX8_count : MI := (yX8_count, cX8_count, 2, (some .int))
abbrev mX8_counted : MI := (yX8_counted, cX8_counted, 2, (some .int))
abbrev mX8_weighs : MI := (yX8_weighs, cX8_weighs, 5, (some .int))
abbrev mX8_goingBack : MI := (yX8_goingBack, cX8_goingBack, 3, (some .int))
abbrev mX8_weight : MI := (yX8_weight, cX8_weight, 2, (some .int))
abbrev mX8_cost : MI := (yX8_cost, cX8_cost, 3, (some .int))
abbrev mX8_isParts : MI := (yX8_isParts, cX8_isParts, 2, (some .boolean))
abbrev mX8_leastCost : MI := (yX8_leastCost, cX8_leastCost, 2, (some .int))
abbrev mX8_cuts : MI := (yX8_cuts, cX8_cuts, 3, none)
abbrev mX8_part : MI := (yX8_part, cX8_part, 8, none)
abbrev mX8_cut : MI := (yX8_cut, cX8_cut, 3, (some .int))
abbrev mX8_cutAt : MI := (yX8_cutAt, cX8_cutAt, 5, (some .int))
abbrev mX8_fewestParts : MI := (yX8_fewestParts, cX8_fewestParts, 2, (some .int))
abbrev mX8_fewest : MI := (yX8_fewest, cX8_fewest, 3, (some .int))
abbrev mX8_halfShare : MI := (yX8_halfShare, cX8_halfShare, 1, (some .double))
abbrev mX8_share : MI := (yX8_share, cX8_share, 4, (some .double))
abbrev mX8_digest : MI := (yX8_digest, cX8_digest, 2, (some .long))
abbrev mX8_mixes : MI := (yX8_mixes, cX8_mixes, 3, none)
abbrev mX8_mixesTable : MI := (yX8_mixesTable, cX8_mixesTable, 2, none)
abbrev mX8_mixesCuts : MI := (yX8_mixesCuts, cX8_mixesCuts, 3, none)
abbrev mJxe99ae_doubleToLongBits_ccdee : MI := (yJxe99ae_doubleToLongBits_ccdee, cJxe99ae_doubleToLongBits_ccdee, 2, (some .long))
abbrev mJxe99ae_isNaN_b9ae7 : MI := (yJxe99ae_isNaN_b9ae7, cJxe99ae_isNaN_b9ae7, 2, (some .boolean))
theorem svX7_init : SI mX7_init 0 := ⟨rfl, rfl, q21, q1, q22, ⟨by decide +kernel, by decide +kernel, by decide +kernel⟩⟩
theorem svX5_init : SI mX5_init 0 := ⟨rfl, rfl, q29, q2, q30, ⟨by decide +kernel, by decide +kernel, by decide +kernel⟩⟩
theorem svX7_setIn : SS mX7_setIn 3 := ⟨q33, q1, q34, ⟨by decide +kernel, by decide +kernel, by decide +kernel⟩⟩
theorem svX3_init : SI mX3_init 1 := ⟨rfl, rfl, q58, q3, q59, ⟨by decide +kernel, by decide +kernel, by decide +kernel⟩⟩
theorem svX1_init : SI mX1_init 1 := ⟨rfl, rfl, q73, q4, q74, ⟨by decide +kernel, by decide +kernel, by decide +kernel⟩⟩
theorem svX0_init : SI mX0_init 1 := ⟨rfl, rfl, q86, q5, q87, ⟨by decide +kernel, by decide +kernel, by decide +kernel⟩⟩
theorem svX6_init : SI mX6_init 0 := ⟨rfl, rfl, q97, q6, q98, ⟨by decide +kernel, by decide +kernel, by decide +kernel⟩⟩
theorem svX2_init : SI mX2_init 0 := ⟨rfl, rfl, q112, q7, q113, ⟨by decide +kernel, by decide +kernel, by decide +kernel⟩⟩
theorem svX4_init : SI mX4_init 0 := ⟨rfl, rfl, q124, q8, q125, ⟨by decide +kernel, by decide +kernel, by decide +kernel⟩⟩
theorem svX7_mend : SV mX7_mend 0 := ⟨q142, q143, q1, q144, ⟨by decide +kernel, by decide +kernel, by decide +kernel⟩⟩
theorem svX2_save : SV mX2_save 1 := ⟨q146, q147, q7, q148, ⟨by decide +kernel, by decide +kernel, by decide +kernel⟩⟩
theorem svX2_stateAt : SV mX2_stateAt 1 := ⟨q150, q922, q7, q151, ⟨by decide +kernel, by decide +kernel, by decide +kernel⟩⟩
theorem svX5_copyFrom : SV mX5_copyFrom 1 := ⟨q153, q154, q2, q155, ⟨by decide +kernel, by decide +kernel, by decide +kernel⟩⟩
theorem svX7_copyAll : SS mX7_copyAll 2 := ⟨q157, q1, q158, ⟨by decide +kernel, by decide +kernel, by decide +kernel⟩⟩
theorem svX3_examine : SV mX3_examine 0 := ⟨q160, q161, q3, q162, ⟨by decide +kernel, by decide +kernel, by decide +kernel⟩⟩
theorem svX3_isGreater : SV mX3_isGreater 3 := ⟨q164, q923, q3, q165, ⟨by decide +kernel, by decide +kernel, by decide +kernel⟩⟩
theorem svX5_numberAt : SV mX5_numberAt 2 := ⟨q167, q168, q2, q169, ⟨by decide +kernel, by decide +kernel, by decide +kernel⟩⟩
theorem svX3_note : SV mX3_note 3 := ⟨q171, q924, q3, q172, ⟨by decide +kernel, by decide +kernel, by decide +kernel⟩⟩
theorem svX5_setNumber : SV mX5_setNumber 3 := ⟨q175, q176, q2, q177, ⟨by decide +kernel, by decide +kernel, by decide +kernel⟩⟩
theorem svX7_clearBuffer : SV mX7_clearBuffer 0 := ⟨q179, q180, q1, q181, ⟨by decide +kernel, by decide +kernel, by decide +kernel⟩⟩
theorem svX6_clear : SV mX6_clear 0 := ⟨q183, q184, q6, q185, ⟨by decide +kernel, by decide +kernel, by decide +kernel⟩⟩
theorem svX7_firstError : SV mX7_firstError 0 := ⟨q187, q188, q1, q189, ⟨by decide +kernel, by decide +kernel, by decide +kernel⟩⟩
theorem svX6_readToError : SV mX6_readToError 0 := ⟨q191, q192, q6, q193, ⟨by decide +kernel, by decide +kernel, by decide +kernel⟩⟩
theorem svX6_codeAt : SV mX6_codeAt 1 := ⟨q195, q196, q6, q197, ⟨by decide +kernel, by decide +kernel, by decide +kernel⟩⟩
theorem svX7_numberIn : SS mX7_numberIn 2 := ⟨q199, q1, q200, ⟨by decide +kernel, by decide +kernel, by decide +kernel⟩⟩
theorem svX6_takes : SV mX6_takes 1 := ⟨q202, q925, q6, q203, ⟨by decide +kernel, by decide +kernel, by decide +kernel⟩⟩
theorem svX7_isFromTo : SS mX7_isFromTo 3 := ⟨q205, q1, q206, ⟨by decide +kernel, by decide +kernel, by decide +kernel⟩⟩
theorem svX6_takesDigit : SV mX6_takesDigit 1 := ⟨q208, q926, q6, q209, ⟨by decide +kernel, by decide +kernel, by decide +kernel⟩⟩
theorem svX6_takesComma : SV mX6_takesComma 0 := ⟨q212, q927, q6, q213, ⟨by decide +kernel, by decide +kernel, by decide +kernel⟩⟩
theorem svX6_takesSlash : SV mX6_takesSlash 0 := ⟨q215, q928, q6, q216, ⟨by decide +kernel, by decide +kernel, by decide +kernel⟩⟩
theorem svX6_isRowFull : SV mX6_isRowFull 0 := ⟨q218, q929, q6, q219, ⟨by decide +kernel, by decide +kernel, by decide +kernel⟩⟩
theorem svX7_bound : SV mX7_bound 0 := ⟨q221, q222, q1, q223, ⟨by decide +kernel, by decide +kernel, by decide +kernel⟩⟩
theorem svX7_halfShare : SV mX7_halfShare 0 := ⟨q225, q226, q1, q227, ⟨by decide +kernel, by decide +kernel, by decide +kernel⟩⟩
theorem svX3_isKept : SV mX3_isKept 0 := ⟨q229, q230, q3, q231, ⟨by decide +kernel, by decide +kernel, by decide +kernel⟩⟩
theorem svX1_seek : SV mX1_seek 1 := ⟨q234, q235, q4, q236, ⟨by decide +kernel, by decide +kernel, by decide +kernel⟩⟩
theorem svX1_leaveAllColumns : SV mX1_leaveAllColumns 0 := ⟨q238, q930, q4, q239, ⟨by decide +kernel, by decide +kernel, by decide +kernel⟩⟩
theorem svX1_halve : SS mX1_halve 6 := ⟨q242, q4, q243, ⟨by decide +kernel, by decide +kernel, by decide +kernel⟩⟩
theorem svX1_leftmostLeast : SV mX1_leftmostLeast 4 := ⟨q245, q931, q4, q246, ⟨by decide +kernel, by decide +kernel, by decide +kernel⟩⟩
theorem svX1_columnLeft : SV mX1_columnLeft 2 := ⟨q249, q932, q4, q250, ⟨by decide +kernel, by decide +kernel, by decide +kernel⟩⟩
theorem svX1_look : SV mX1_look 2 := ⟨q253, q933, q4, q254, ⟨by decide +kernel, by decide +kernel, by decide +kernel⟩⟩
theorem svX1_setPlace : SV mX1_setPlace 2 := ⟨q257, q934, q4, q258, ⟨by decide +kernel, by decide +kernel, by decide +kernel⟩⟩
theorem svX1_pileColumns : SV mX1_pileColumns 1 := ⟨q260, q935, q4, q261, ⟨by decide +kernel, by decide +kernel, by decide +kernel⟩⟩
theorem svX1_rowsAt : SV mX1_rowsAt 1 := ⟨q263, q936, q4, q264, ⟨by decide +kernel, by decide +kernel, by decide +kernel⟩⟩
theorem svX1_heightAfterThrowing : SV mX1_heightAfterThrowing 3 := ⟨q266, q937, q4, q267, ⟨by decide +kernel, by decide +kernel, by decide +kernel⟩⟩
theorem svX1_rowAt : SV mX1_rowAt 2 := ⟨q269, q938, q4, q270, ⟨by decide +kernel, by decide +kernel, by decide +kernel⟩⟩
theorem svX1_fillBetween : SV mX1_fillBetween 1 := ⟨q272, q939, q4, q273, ⟨by decide +kernel, by decide +kernel, by decide +kernel⟩⟩
theorem svX1_placeBy : SV mX1_placeBy 2 := ⟨q275, q276, q4, q277, ⟨by decide +kernel, by decide +kernel, by decide +kernel⟩⟩
theorem svX1_lookAtAll : SV mX1_lookAtAll 0 := ⟨q279, q940, q4, q280, ⟨by decide +kernel, by decide +kernel, by decide +kernel⟩⟩
theorem svX1_shareOfHalves : SV mX1_shareOfHalves 0 := ⟨q282, q283, q4, q284, ⟨by decide +kernel, by decide +kernel, by decide +kernel⟩⟩
theorem svX1_looksBy : SV mX1_looksBy 1 := ⟨q286, q287, q4, q288, ⟨by decide +kernel, by decide +kernel, by decide +kernel⟩⟩
theorem svX7_digest : SV mX7_digest 0 := ⟨q290, q291, q1, q292, ⟨by decide +kernel, by decide +kernel, by decide +kernel⟩⟩
theorem svX7_counted : SV mX7_counted 1 := ⟨q295, q941, q1, q296, ⟨by decide +kernel, by decide +kernel, by decide +kernel⟩⟩
theorem svX5_weightsTogether : SV mX5_weightsTogether 0 := ⟨q298, q299, q2, q300, ⟨by decide +kernel, by decide +kernel, by decide +kernel⟩⟩
theorem svX5_weightAt : SV mX5_weightAt 1 := ⟨q302, q303, q2, q304, ⟨by decide +kernel, by decide +kernel, by decide +kernel⟩⟩
theorem svX1_placesGoneBack : SV mX1_placesGoneBack 0 := ⟨q307, q308, q4, q309, ⟨by decide +kernel, by decide +kernel, by decide +kernel⟩⟩
theorem svX7_mixed : SS mX7_mixed 2 := ⟨q311, q1, q312, ⟨by decide +kernel, by decide +kernel, by decide +kernel⟩⟩
theorem svX7_mixedCells : SV mX7_mixedCells 1 := ⟨q315, q942, q1, q316, ⟨by decide +kernel, by decide +kernel, by decide +kernel⟩⟩
theorem svX7_seekByAllWays : SV mX7_seekByAllWays 0 := ⟨q318, q943, q1, q319, ⟨by decide +kernel, by decide +kernel, by decide +kernel⟩⟩
theorem svX1_tellNothing : SV mX1_tellNothing 1 := ⟨q321, q322, q4, q323, ⟨by decide +kernel, by decide +kernel, by decide +kernel⟩⟩
theorem svX7_mixedPlaces : SV mX7_mixedPlaces 1 := ⟨q325, q944, q1, q326, ⟨by decide +kernel, by decide +kernel, by decide +kernel⟩⟩
theorem svX3_told : SV mX3_told 1 := ⟨q331, q332, q3, q333, ⟨by decide +kernel, by decide +kernel, by decide +kernel⟩⟩
theorem svX7_mixedWeights : SV mX7_mixedWeights 1 := ⟨q335, q945, q1, q336, ⟨by decide +kernel, by decide +kernel, by decide +kernel⟩⟩
theorem svX0_planCuts : SV mX0_planCuts 0 := ⟨q339, q340, q5, q341, ⟨by decide +kernel, by decide +kernel, by decide +kernel⟩⟩
theorem svX0_planLastCut : SV mX0_planLastCut 2 := ⟨q345, q946, q5, q346, ⟨by decide +kernel, by decide +kernel, by decide +kernel⟩⟩
theorem svX0_tryAllCuts : SV mX0_tryAllCuts 0 := ⟨q350, q351, q5, q352, ⟨by decide +kernel, by decide +kernel, by decide +kernel⟩⟩
theorem svX0_tryNextPart : SS mX0_tryNextPart 4 := ⟨q354, q5, q355, ⟨by decide +kernel, by decide +kernel, by decide +kernel⟩⟩
theorem svX0_triedCost : SV mX0_triedCost 1 := ⟨q357, q358, q5, q359, ⟨by decide +kernel, by decide +kernel, by decide +kernel⟩⟩
theorem svJ9_min_7cf53 : SS mJ9_min_7cf53 2 := ⟨q361, q15, q362, ⟨by decide +kernel, by decide +kernel, by decide +kernel⟩⟩
theorem svX0_plannedCost : SV mX0_plannedCost 1 := ⟨q364, q365, q5, q366, ⟨by decide +kernel, by decide +kernel, by decide +kernel⟩⟩
theorem svX0_plannedCut : SV mX0_plannedCut 2 := ⟨q369, q370, q5, q371, ⟨by decide +kernel, by decide +kernel, by decide +kernel⟩⟩
theorem svX0_fewestPartsFor : SV mX0_fewestPartsFor 1 := ⟨q373, q374, q5, q375, ⟨by decide +kernel, by decide +kernel, by decide +kernel⟩⟩
theorem svX7_bitsOf : SS mX7_bitsOf 1 := ⟨q379, q1, q380, ⟨by decide +kernel, by decide +kernel, by decide +kernel⟩⟩
theorem svX7_size : SV mX7_size 2 := ⟨q390, q391, q1, q392, ⟨by decide +kernel, by decide +kernel, by decide +kernel⟩⟩
theorem svX5_sizeCode : SV mX5_sizeCode 0 := ⟨q431, q432, q2, q433, ⟨by decide +kernel, by decide +kernel, by decide +kernel⟩⟩
theorem svX7_put : SV mX7_put 3 := ⟨q439, q440, q1, q441, ⟨by decide +kernel, by decide +kernel, by decide +kernel⟩⟩
theorem svX5_hasCell : SV mX5_hasCell 2 := ⟨q443, q444, q2, q445, ⟨by decide +kernel, by decide +kernel, by decide +kernel⟩⟩
theorem svX7_points : SV mX7_points 4 := ⟨q459, q460, q1, q461, ⟨by decide +kernel, by decide +kernel, by decide +kernel⟩⟩
theorem svX7_find : SV mX7_find 1 := ⟨q468, q469, q1, q470, ⟨by decide +kernel, by decide +kernel, by decide +kernel⟩⟩
theorem svX7_isWay : SS mX7_isWay 1 := ⟨q472, q1, q473, ⟨by decide +kernel, by decide +kernel, by decide +kernel⟩⟩
theorem svX7_isOpen : SV mX7_isOpen 1 := ⟨q475, q948, q1, q476, ⟨by decide +kernel, by decide +kernel, by decide +kernel⟩⟩
theorem svX7_weigh : SV mX7_weigh 1 := ⟨q489, q490, q1, q491, ⟨by decide +kernel, by decide +kernel, by decide +kernel⟩⟩
theorem svX5_addWeight : SV mX5_addWeight 1 := ⟨q493, q494, q2, q495, ⟨by decide +kernel, by decide +kernel, by decide +kernel⟩⟩
theorem svX7_unweigh : SV mX7_unweigh 0 := ⟨q500, q501, q1, q502, ⟨by decide +kernel, by decide +kernel, by decide +kernel⟩⟩
theorem svX7_append : SV mX7_append 1 := ⟨q507, q508, q1, q509, ⟨by decide +kernel, by decide +kernel, by decide +kernel⟩⟩
theorem svX6_add : SV mX6_add 1 := ⟨q511, q512, q6, q513, ⟨by decide +kernel, by decide +kernel, by decide +kernel⟩⟩
theorem svX7_load : SV mX7_load 0 := ⟨q518, q519, q1, q520, ⟨by decide +kernel, by decide +kernel, by decide +kernel⟩⟩
theorem svX6_tellsTable : SV mX6_tellsTable 0 := ⟨q522, q523, q6, q524, ⟨by decide +kernel, by decide +kernel, by decide +kernel⟩⟩
theorem svX6_rowsTold : SV mX6_rowsTold 0 := ⟨q527, q528, q6, q529, ⟨by decide +kernel, by decide +kernel, by decide +kernel⟩⟩
theorem svX6_columnsTold : SV mX6_columnsTold 0 := ⟨q531, q532, q6, q533, ⟨by decide +kernel, by decide +kernel, by decide +kernel⟩⟩
theorem svX6_numberTold : SV mX6_numberTold 2 := ⟨q535, q536, q6, q537, ⟨by decide +kernel, by decide +kernel, by decide +kernel⟩⟩
theorem svX7_keep : SV mX7_keep 1 := ⟨q542, q543, q1, q544, ⟨by decide +kernel, by decide +kernel, by decide +kernel⟩⟩
theorem svX7_slotAt : SV mX7_slotAt 1 := ⟨q546, q949, q1, q547, ⟨by decide +kernel, by decide +kernel, by decide +kernel⟩⟩
theorem svX4_fillFrom : SV mX4_fillFrom 1 := ⟨q549, q550, q8, q551, ⟨by decide +kernel, by decide +kernel, by decide +kernel⟩⟩
theorem svX7_goBack : SV mX7_goBack 1 := ⟨q557, q558, q1, q559, ⟨by decide +kernel, by decide +kernel, by decide +kernel⟩⟩
theorem svX7_undo : SV mX7_undo 0 := ⟨q565, q566, q1, q567, ⟨by decide +kernel, by decide +kernel, by decide +kernel⟩⟩
theorem svX2_latest : SV mX2_latest 0 := ⟨q569, q570, q7, q571, ⟨by decide +kernel, by decide +kernel, by decide +kernel⟩⟩
theorem svX7_cell : SV mX7_cell 2 := ⟨q576, q577, q1, q578, ⟨by decide +kernel, by decide +kernel, by decide +kernel⟩⟩
theorem svX7_place : SV mX7_place 2 := ⟨q583, q584, q1, q585, ⟨by decide +kernel, by decide +kernel, by decide +kernel⟩⟩
theorem svX7_looks : SV mX7_looks 1 := ⟨q590, q591, q1, q592, ⟨by decide +kernel, by decide +kernel, by decide +kernel⟩⟩
theorem svX7_witness : SV mX7_witness 1 := ⟨q597, q598, q1, q599, ⟨by decide +kernel, by decide +kernel, by decide +kernel⟩⟩
theorem svX7_count : SV mX7_count 1 := ⟨q604, q605, q1, q606, ⟨by decide +kernel, by decide +kernel, by decide +kernel⟩⟩
theorem svX7_weight : SV mX7_weight 1 := ⟨q611, q612, q1, q613, ⟨by decide +kernel, by decide +kernel, by decide +kernel⟩⟩
theorem svX7_cost : SV mX7_cost 2 := ⟨q618, q619, q1, q620, ⟨by decide +kernel, by decide +kernel, by decide +kernel⟩⟩
theorem svX7_cut : SV mX7_cut 2 := ⟨q625, q626, q1, q627, ⟨by decide +kernel, by decide +kernel, by decide +kernel⟩⟩
theorem svX7_fewestParts : SV mX7_fewestParts 1 := ⟨q632, q633, q1, q634, ⟨by decide +kernel, by decide +kernel, by decide +kernel⟩⟩
theorem svX8_init : SI mX8_init 0 := ⟨rfl, rfl, q639, q9, q640, ⟨by decide +kernel, by decide +kernel, by decide +kernel⟩⟩
theorem svX8_thrown : SV mX8_thrown 0 := ⟨q664, q665, q9, q666, ⟨by decide +kernel, by decide +kernel, by decide +kernel⟩⟩
theorem svX8_size : SV mX8_size 2 := ⟨q668, q669, q9, q670, ⟨by decide +kernel, by decide +kernel, by decide +kernel⟩⟩
theorem svX8_in : SS mX8_in 3 := ⟨q672, q9, q673, ⟨by decide +kernel, by decide +kernel, by decide +kernel⟩⟩
theorem svX8_refuses : SV mX8_refuses 1 := ⟨q675, q950, q9, q676, ⟨by decide +kernel, by decide +kernel, by decide +kernel⟩⟩
theorem svX8_saves : SV mX8_saves 0 := ⟨q678, q951, q9, q679, ⟨by decide +kernel, by decide +kernel, by decide +kernel⟩⟩
theorem svX8_lays : SS mX8_lays 4 := ⟨q681, q9, q682, ⟨by decide +kernel, by decide +kernel, by decide +kernel⟩⟩
theorem svX8_put : SV mX8_put 3 := ⟨q684, q685, q9, q686, ⟨by decide +kernel, by decide +kernel, by decide +kernel⟩⟩
theorem svX8_isCell : SV mX8_isCell 2 := ⟨q688, q952, q9, q689, ⟨by decide +kernel, by decide +kernel, by decide +kernel⟩⟩
theorem svX8_isRow : SV mX8_isRow 1 := ⟨q691, q953, q9, q692, ⟨by decide +kernel, by decide +kernel, by decide +kernel⟩⟩
theorem svX8_at : SV mX8_at 2 := ⟨q694, q954, q9, q695, ⟨by decide +kernel, by decide +kernel, by decide +kernel⟩⟩
theorem svX8_becomes : SV mX8_becomes 3 := ⟨q697, q955, q9, q698, ⟨by decide +kernel, by decide +kernel, by decide +kernel⟩⟩
theorem svX8_points : SV mX8_points 4 := ⟨q700, q701, q9, q702, ⟨by decide +kernel, by decide +kernel, by decide +kernel⟩⟩
theorem svX8_isKeeping : SV mX8_isKeeping 0 := ⟨q704, q956, q9, q705, ⟨by decide +kernel, by decide +kernel, by decide +kernel⟩⟩
theorem svX8_first : SV mX8_first 0 := ⟨q707, q957, q9, q708, ⟨by decide +kernel, by decide +kernel, by decide +kernel⟩⟩
theorem svX8_isAgainst : SV mX8_isAgainst 3 := ⟨q710, q958, q9, q711, ⟨by decide +kernel, by decide +kernel, by decide +kernel⟩⟩
theorem svX8_mend : SV mX8_mend 0 := ⟨q713, q714, q9, q715, ⟨by decide +kernel, by decide +kernel, by decide +kernel⟩⟩
theorem svX8_find : SV mX8_find 1 := ⟨q717, q718, q9, q719, ⟨by decide +kernel, by decide +kernel, by decide +kernel⟩⟩
theorem svX8_canGo : SV mX8_canGo 1 := ⟨q721, q959, q9, q722, ⟨by decide +kernel, by decide +kernel, by decide +kernel⟩⟩
theorem svX8_finds : SV mX8_finds 1 := ⟨q724, q960, q9, q725, ⟨by decide +kernel, by decide +kernel, by decide +kernel⟩⟩
theorem svX8_byAll : SV mX8_byAll 0 := ⟨q727, q961, q9, q728, ⟨by decide +kernel, by decide +kernel, by decide +kernel⟩⟩
theorem svX8_least : SV mX8_least 3 := ⟨q730, q962, q9, q731, ⟨by decide +kernel, by decide +kernel, by decide +kernel⟩⟩
theorem svX8_byHalves : SV mX8_byHalves 0 := ⟨q733, q963, q9, q734, ⟨by decide +kernel, by decide +kernel, by decide +kernel⟩⟩
theorem svX8_opens : SV mX8_opens 4 := ⟨q736, q964, q9, q737, ⟨by decide +kernel, by decide +kernel, by decide +kernel⟩⟩
theorem svX8_byThrowing : SV mX8_byThrowing 0 := ⟨q739, q965, q9, q740, ⟨by decide +kernel, by decide +kernel, by decide +kernel⟩⟩
theorem svX8_throwsOut : SV mX8_throwsOut 1 := ⟨q742, q966, q9, q743, ⟨by decide +kernel, by decide +kernel, by decide +kernel⟩⟩
theorem svX8_piles : SV mX8_piles 3 := ⟨q745, q967, q9, q746, ⟨by decide +kernel, by decide +kernel, by decide +kernel⟩⟩
theorem svX8_rowAt : SS mX8_rowAt 2 := ⟨q748, q9, q749, ⟨by decide +kernel, by decide +kernel, by decide +kernel⟩⟩
theorem svX8_fills : SV mX8_fills 1 := ⟨q751, q968, q9, q752, ⟨by decide +kernel, by decide +kernel, by decide +kernel⟩⟩
theorem svX8_leastLeft : SV mX8_leastLeft 4 := ⟨q754, q969, q9, q755, ⟨by decide +kernel, by decide +kernel, by decide +kernel⟩⟩
theorem svX8_weigh : SV mX8_weigh 1 := ⟨q757, q758, q9, q759, ⟨by decide +kernel, by decide +kernel, by decide +kernel⟩⟩
theorem svX8_unweigh : SV mX8_unweigh 0 := ⟨q761, q762, q9, q763, ⟨by decide +kernel, by decide +kernel, by decide +kernel⟩⟩
theorem svX8_append : SV mX8_append 1 := ⟨q765, q766, q9, q767, ⟨by decide +kernel, by decide +kernel, by decide +kernel⟩⟩
theorem svX8_clearBuffer : SV mX8_clearBuffer 0 := ⟨q769, q770, q9, q771, ⟨by decide +kernel, by decide +kernel, by decide +kernel⟩⟩
theorem svX8_firstError : SV mX8_firstError 0 := ⟨q773, q774, q9, q775, ⟨by decide +kernel, by decide +kernel, by decide +kernel⟩⟩
theorem svX8_isWhole : SV mX8_isWhole 0 := ⟨q777, q970, q9, q778, ⟨by decide +kernel, by decide +kernel, by decide +kernel⟩⟩
theorem svX8_isLine : SV mX8_isLine 1 := ⟨q780, q971, q9, q781, ⟨by decide +kernel, by decide +kernel, by decide +kernel⟩⟩
theorem svX8_isNumber : SV mX8_isNumber 2 := ⟨q783, q972, q9, q784, ⟨by decide +kernel, by decide +kernel, by decide +kernel⟩⟩
theorem svX8_sees : SV mX8_sees 2 := ⟨q786, q973, q9, q787, ⟨by decide +kernel, by decide +kernel, by decide +kernel⟩⟩
theorem svX8_takes : SV mX8_takes 1 := ⟨q789, q974, q9, q790, ⟨by decide +kernel, by decide +kernel, by decide +kernel⟩⟩
theorem svX8_load : SV mX8_load 0 := ⟨q792, q793, q9, q794, ⟨by decide +kernel, by decide +kernel, by decide +kernel⟩⟩
theorem svX8_keep : SV mX8_keep 1 := ⟨q796, q797, q9, q798, ⟨by decide +kernel, by decide +kernel, by decide +kernel⟩⟩
theorem svX8_goBack : SV mX8_goBack 1 := ⟨q800, q801, q9, q802, ⟨by decide +kernel, by decide +kernel, by decide +kernel⟩⟩
theorem svX8_undo : SV mX8_undo 0 := ⟨q804, q805, q9, q806, ⟨by decide +kernel, by decide +kernel, by decide +kernel⟩⟩
theorem svX8_cell : SV mX8_cell 2 := ⟨q808, q809, q9, q810, ⟨by decide +kernel, by decide +kernel, by decide +kernel⟩⟩
theorem svX8_place : SV mX8_place 2 := ⟨q812, q813, q9, q814, ⟨by decide +kernel, by decide +kernel, by decide +kernel⟩⟩
theorem svX8_placeBy : SV mX8_placeBy 2 := ⟨q816, q975, q9, q817, ⟨by decide +kernel, by decide +kernel, by decide +kernel⟩⟩
theorem svX8_looks : SV mX8_looks 1 := ⟨q819, q820, q9, q821, ⟨by decide +kernel, by decide +kernel, by decide +kernel⟩⟩
theorem svX8_looksBy : SV mX8_looksBy 1 := ⟨q823, q976, q9, q824, ⟨by decide +kernel, by decide +kernel, by decide +kernel⟩⟩
theorem svX8_bound : SV mX8_bound 0 := ⟨q826, q827, q9, q828, ⟨by decide +kernel, by decide +kernel, by decide +kernel⟩⟩
theorem svX8_bounds : SV mX8_bounds 0 := ⟨q830, q977, q9, q831, ⟨by decide +kernel, by decide +kernel, by decide +kernel⟩⟩
theorem svX8_witness : SV mX8_witness 1 := ⟨q833, q834, q9, q835, ⟨by decide +kernel, by decide +kernel, by decide +kernel⟩⟩
theorem svX8_testified : SV mX8_testified 1 := ⟨q837, q978, q9, q838, ⟨by decide +kernel, by decide +kernel, by decide +kernel⟩⟩
theorem svX8_witnesses : SV mX8_witnesses 0 := ⟨q840, q979, q9, q841, ⟨by decide +kernel, by decide +kernel, by decide +kernel⟩⟩
theorem svX8_count : SV mX8_count 1 := ⟨q843, q844, q9, q845, ⟨by decide +kernel, by decide +kernel, by decide +kernel⟩⟩
theorem svX8_counted : SV mX8_counted 1 := ⟨q847, q980, q9, q848, ⟨by decide +kernel, by decide +kernel, by decide +kernel⟩⟩
theorem svX8_weighs : SV mX8_weighs 2 := ⟨q850, q981, q9, q851, ⟨by decide +kernel, by decide +kernel, by decide +kernel⟩⟩
theorem svX8_goingBack : SV mX8_goingBack 0 := ⟨q853, q982, q9, q854, ⟨by decide +kernel, by decide +kernel, by decide +kernel⟩⟩
theorem svX8_weight : SV mX8_weight 1 := ⟨q856, q857, q9, q858, ⟨by decide +kernel, by decide +kernel, by decide +kernel⟩⟩
theorem svX8_cost : SV mX8_cost 2 := ⟨q860, q861, q9, q862, ⟨by decide +kernel, by decide +kernel, by decide +kernel⟩⟩
theorem svX8_isParts : SV mX8_isParts 1 := ⟨q864, q983, q9, q865, ⟨by decide +kernel, by decide +kernel, by decide +kernel⟩⟩
theorem svX8_leastCost : SV mX8_leastCost 1 := ⟨q867, q984, q9, q868, ⟨by decide +kernel, by decide +kernel, by decide +kernel⟩⟩
theorem svX8_cuts : SV mX8_cuts 0 := ⟨q870, q985, q9, q871, ⟨by decide +kernel, by decide +kernel, by decide +kernel⟩⟩
theorem svX8_part : SV mX8_part 2 := ⟨q873, q986, q9, q874, ⟨by decide +kernel, by decide +kernel, by decide +kernel⟩⟩
theorem svX8_cut : SV mX8_cut 2 := ⟨q876, q877, q9, q878, ⟨by decide +kernel, by decide +kernel, by decide +kernel⟩⟩
theorem svX8_cutAt : SV mX8_cutAt 2 := ⟨q880, q987, q9, q881, ⟨by decide +kernel, by decide +kernel, by decide +kernel⟩⟩
theorem svX8_fewestParts : SV mX8_fewestParts 1 := ⟨q883, q884, q9, q885, ⟨by decide +kernel, by decide +kernel, by decide +kernel⟩⟩
theorem svX8_fewest : SV mX8_fewest 1 := ⟨q888, q988, q9, q889, ⟨by decide +kernel, by decide +kernel, by decide +kernel⟩⟩
theorem svX8_halfShare : SV mX8_halfShare 0 := ⟨q891, q892, q9, q893, ⟨by decide +kernel, by decide +kernel, by decide +kernel⟩⟩
theorem svX8_share : SV mX8_share 0 := ⟨q895, q989, q9, q896, ⟨by decide +kernel, by decide +kernel, by decide +kernel⟩⟩
theorem svX8_digest : SV mX8_digest 0 := ⟨q898, q899, q9, q900, ⟨by decide +kernel, by decide +kernel, by decide +kernel⟩⟩
theorem svX8_mixes : SV mX8_mixes 1 := ⟨q903, q990, q9, q904, ⟨by decide +kernel, by decide +kernel, by decide +kernel⟩⟩
theorem svX8_mixesTable : SV mX8_mixesTable 0 := ⟨q907, q991, q9, q908, ⟨by decide +kernel, by decide +kernel, by decide +kernel⟩⟩
theorem svX8_mixesCuts : SV mX8_mixesCuts 1 := ⟨q910, q992, q9, q911, ⟨by decide +kernel, by decide +kernel, by decide +kernel⟩⟩
theorem svJxe99ae_doubleToLongBits_ccdee : SS mJxe99ae_doubleToLongBits_ccdee 1 := ⟨q913, q17, q914, ⟨by decide +kernel, by decide +kernel, by decide +kernel⟩⟩
theorem svJxe99ae_isNaN_b9ae7 : SS mJxe99ae_isNaN_b9ae7 1 := ⟨q916, q17, q917, ⟨by decide +kernel, by decide +kernel, by decide +kernel⟩⟩
