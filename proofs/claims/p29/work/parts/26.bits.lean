variable {Ω : List Ob}

/-- the share, scaled up i times -/
def bz (x : UInt64) : Nat → UInt64
  | 0 => x
  | i + 1 => FP.dmul (bz x i) (4611686018427387904 : UInt64)
def dbv (x : UInt64) : Int := x.toInt64.toInt
theorem dbv_L {x : UInt64} : Lg (dbv x) = .long x.toInt64 := by
  unfold Lg dbv
  rw [Int64.ofInt_toInt]
def n64b (r : UInt64) : Bool := r &&& 0x7fffffffffffffff ≤ 0x7ff0000000000000
theorem n64b_is {r : UInt64} (h : n64b r = true) : vf_n64 r := by
  unfold n64b at h
  unfold vf_n64
  exact of_decide_eq_true h
def bfr (x : UInt64) (i : Nat) : UInt64 := FP.dmul (FP.dsub (bz x i) FP.dconst1) (4841369599423283200 : UInt64)
def bOK (x : UInt64) (i : Nat) : Bool :=
  (Op.cmpValue (FP.dcmp x FP.dconst0) .l == Int32.ofInt 1) && (Op.cmpValue (FP.dcmp x x) .l == Int32.ofInt 0) && ((List.range i).all (fun j => Op.cmpValue (FP.dcmp (bz x j) FP.dconst1) .g == Int32.ofInt (-1) && n64b (FP.dmul (bz x j) (4611686018427387904 : UInt64)))) &&
  (Op.cmpValue (FP.dcmp (bz x i) FP.dconst1) .g == Int32.ofInt 0 || Op.cmpValue (FP.dcmp (bz x i) FP.dconst1) .g == Int32.ofInt 1) && n64b (FP.dsub (bz x i) FP.dconst1) && n64b (bfr x i) && n64b x &&
  (Int64.ofInt ((1023 - (i : Int)) * 4503599627370496 + (FP.d2l (bfr x i)).toInt) == x.toInt64)
def dvK (k n : Int) : UInt64 := FP.ddiv (FP.i2d (Int32.ofInt k)) (FP.i2d (Int32.ofInt n))
def bi (k n : Nat) : Nat := if n ≤ k then 0 else if n ≤ 2 * k then 1 else if n ≤ 4 * k then 2 else if n ≤ 8 * k then 3 else if n ≤ 16 * k then 4 else if n ≤ 32 * k then 5 else if n ≤ 64 * k then 6 else 7
def bAt (n k : Nat) : Bool := bOK (dvK ((k : Int) + 1) (n : Int)) (bi (k + 1) n)
set_option maxRecDepth 100000
theorem b_1_0 : (List.range 1).all (fun k => bAt 1 (0 + k)) = true := by decide +kernel
theorem b_2_0 : (List.range 2).all (fun k => bAt 2 (0 + k)) = true := by decide +kernel
theorem b_3_0 : (List.range 3).all (fun k => bAt 3 (0 + k)) = true := by decide +kernel
theorem b_4_0 : (List.range 4).all (fun k => bAt 4 (0 + k)) = true := by decide +kernel
theorem b_5_0 : (List.range 5).all (fun k => bAt 5 (0 + k)) = true := by decide +kernel
theorem b_6_0 : (List.range 6).all (fun k => bAt 6 (0 + k)) = true := by decide +kernel
theorem b_7_0 : (List.range 7).all (fun k => bAt 7 (0 + k)) = true := by decide +kernel
theorem b_8_0 : (List.range 8).all (fun k => bAt 8 (0 + k)) = true := by decide +kernel
theorem b_9_0 : (List.range 9).all (fun k => bAt 9 (0 + k)) = true := by decide +kernel
theorem b_10_0 : (List.range 10).all (fun k => bAt 10 (0 + k)) = true := by decide +kernel
theorem b_12_0 : (List.range 12).all (fun k => bAt 12 (0 + k)) = true := by decide +kernel
theorem b_14_0 : (List.range 14).all (fun k => bAt 14 (0 + k)) = true := by decide +kernel
theorem b_15_0 : (List.range 15).all (fun k => bAt 15 (0 + k)) = true := by decide +kernel
theorem b_16_0 : (List.range 16).all (fun k => bAt 16 (0 + k)) = true := by decide +kernel
theorem b_18_0 : (List.range 18).all (fun k => bAt 18 (0 + k)) = true := by decide +kernel
theorem b_20_0 : (List.range 20).all (fun k => bAt 20 (0 + k)) = true := by decide +kernel
theorem b_21_0 : (List.range 20).all (fun k => bAt 21 (0 + k)) = true := by decide +kernel
theorem b_21_20 : (List.range 1).all (fun k => bAt 21 (20 + k)) = true := by decide +kernel
theorem b_24_0 : (List.range 20).all (fun k => bAt 24 (0 + k)) = true := by decide +kernel
theorem b_24_20 : (List.range 4).all (fun k => bAt 24 (20 + k)) = true := by decide +kernel
theorem b_25_0 : (List.range 20).all (fun k => bAt 25 (0 + k)) = true := by decide +kernel
theorem b_25_20 : (List.range 5).all (fun k => bAt 25 (20 + k)) = true := by decide +kernel
theorem b_27_0 : (List.range 20).all (fun k => bAt 27 (0 + k)) = true := by decide +kernel
theorem b_27_20 : (List.range 7).all (fun k => bAt 27 (20 + k)) = true := by decide +kernel
theorem b_28_0 : (List.range 20).all (fun k => bAt 28 (0 + k)) = true := by decide +kernel
theorem b_28_20 : (List.range 8).all (fun k => bAt 28 (20 + k)) = true := by decide +kernel
theorem b_30_0 : (List.range 20).all (fun k => bAt 30 (0 + k)) = true := by decide +kernel
theorem b_30_20 : (List.range 10).all (fun k => bAt 30 (20 + k)) = true := by decide +kernel
theorem b_32_0 : (List.range 20).all (fun k => bAt 32 (0 + k)) = true := by decide +kernel
theorem b_32_20 : (List.range 12).all (fun k => bAt 32 (20 + k)) = true := by decide +kernel
theorem b_35_0 : (List.range 20).all (fun k => bAt 35 (0 + k)) = true := by decide +kernel
theorem b_35_20 : (List.range 15).all (fun k => bAt 35 (20 + k)) = true := by decide +kernel
theorem b_36_0 : (List.range 20).all (fun k => bAt 36 (0 + k)) = true := by decide +kernel
theorem b_36_20 : (List.range 16).all (fun k => bAt 36 (20 + k)) = true := by decide +kernel
theorem b_40_0 : (List.range 20).all (fun k => bAt 40 (0 + k)) = true := by decide +kernel
theorem b_40_20 : (List.range 20).all (fun k => bAt 40 (20 + k)) = true := by decide +kernel
theorem b_42_0 : (List.range 20).all (fun k => bAt 42 (0 + k)) = true := by decide +kernel
theorem b_42_20 : (List.range 20).all (fun k => bAt 42 (20 + k)) = true := by decide +kernel
theorem b_42_40 : (List.range 2).all (fun k => bAt 42 (40 + k)) = true := by decide +kernel
theorem b_45_0 : (List.range 20).all (fun k => bAt 45 (0 + k)) = true := by decide +kernel
theorem b_45_20 : (List.range 20).all (fun k => bAt 45 (20 + k)) = true := by decide +kernel
theorem b_45_40 : (List.range 5).all (fun k => bAt 45 (40 + k)) = true := by decide +kernel
theorem b_48_0 : (List.range 20).all (fun k => bAt 48 (0 + k)) = true := by decide +kernel
theorem b_48_20 : (List.range 20).all (fun k => bAt 48 (20 + k)) = true := by decide +kernel
theorem b_48_40 : (List.range 8).all (fun k => bAt 48 (40 + k)) = true := by decide +kernel
theorem b_49_0 : (List.range 20).all (fun k => bAt 49 (0 + k)) = true := by decide +kernel
theorem b_49_20 : (List.range 20).all (fun k => bAt 49 (20 + k)) = true := by decide +kernel
theorem b_49_40 : (List.range 9).all (fun k => bAt 49 (40 + k)) = true := by decide +kernel
theorem b_50_0 : (List.range 20).all (fun k => bAt 50 (0 + k)) = true := by decide +kernel
theorem b_50_20 : (List.range 20).all (fun k => bAt 50 (20 + k)) = true := by decide +kernel
theorem b_50_40 : (List.range 10).all (fun k => bAt 50 (40 + k)) = true := by decide +kernel
theorem b_54_0 : (List.range 20).all (fun k => bAt 54 (0 + k)) = true := by decide +kernel
theorem b_54_20 : (List.range 20).all (fun k => bAt 54 (20 + k)) = true := by decide +kernel
theorem b_54_40 : (List.range 14).all (fun k => bAt 54 (40 + k)) = true := by decide +kernel
theorem b_56_0 : (List.range 20).all (fun k => bAt 56 (0 + k)) = true := by decide +kernel
theorem b_56_20 : (List.range 20).all (fun k => bAt 56 (20 + k)) = true := by decide +kernel
theorem b_56_40 : (List.range 16).all (fun k => bAt 56 (40 + k)) = true := by decide +kernel
theorem b_60_0 : (List.range 20).all (fun k => bAt 60 (0 + k)) = true := by decide +kernel
theorem b_60_20 : (List.range 20).all (fun k => bAt 60 (20 + k)) = true := by decide +kernel
theorem b_60_40 : (List.range 20).all (fun k => bAt 60 (40 + k)) = true := by decide +kernel
theorem b_63_0 : (List.range 20).all (fun k => bAt 63 (0 + k)) = true := by decide +kernel
theorem b_63_20 : (List.range 20).all (fun k => bAt 63 (20 + k)) = true := by decide +kernel
theorem b_63_40 : (List.range 20).all (fun k => bAt 63 (40 + k)) = true := by decide +kernel
theorem b_63_60 : (List.range 3).all (fun k => bAt 63 (60 + k)) = true := by decide +kernel
theorem b_64_0 : (List.range 20).all (fun k => bAt 64 (0 + k)) = true := by decide +kernel
theorem b_64_20 : (List.range 20).all (fun k => bAt 64 (20 + k)) = true := by decide +kernel
theorem b_64_40 : (List.range 20).all (fun k => bAt 64 (40 + k)) = true := by decide +kernel
theorem b_64_60 : (List.range 4).all (fun k => bAt 64 (60 + k)) = true := by decide +kernel
theorem b_70_0 : (List.range 20).all (fun k => bAt 70 (0 + k)) = true := by decide +kernel
theorem b_70_20 : (List.range 20).all (fun k => bAt 70 (20 + k)) = true := by decide +kernel
theorem b_70_40 : (List.range 20).all (fun k => bAt 70 (40 + k)) = true := by decide +kernel
theorem b_70_60 : (List.range 10).all (fun k => bAt 70 (60 + k)) = true := by decide +kernel
theorem b_72_0 : (List.range 20).all (fun k => bAt 72 (0 + k)) = true := by decide +kernel
theorem b_72_20 : (List.range 20).all (fun k => bAt 72 (20 + k)) = true := by decide +kernel
theorem b_72_40 : (List.range 20).all (fun k => bAt 72 (40 + k)) = true := by decide +kernel
theorem b_72_60 : (List.range 12).all (fun k => bAt 72 (60 + k)) = true := by decide +kernel
theorem b_80_0 : (List.range 20).all (fun k => bAt 80 (0 + k)) = true := by decide +kernel
theorem b_80_20 : (List.range 20).all (fun k => bAt 80 (20 + k)) = true := by decide +kernel
theorem b_80_40 : (List.range 20).all (fun k => bAt 80 (40 + k)) = true := by decide +kernel
theorem b_80_60 : (List.range 20).all (fun k => bAt 80 (60 + k)) = true := by decide +kernel
theorem b_81_0 : (List.range 20).all (fun k => bAt 81 (0 + k)) = true := by decide +kernel
theorem b_81_20 : (List.range 20).all (fun k => bAt 81 (20 + k)) = true := by decide +kernel
theorem b_81_40 : (List.range 20).all (fun k => bAt 81 (40 + k)) = true := by decide +kernel
theorem b_81_60 : (List.range 20).all (fun k => bAt 81 (60 + k)) = true := by decide +kernel
theorem b_81_80 : (List.range 1).all (fun k => bAt 81 (80 + k)) = true := by decide +kernel
theorem b_90_0 : (List.range 20).all (fun k => bAt 90 (0 + k)) = true := by decide +kernel
theorem b_90_20 : (List.range 20).all (fun k => bAt 90 (20 + k)) = true := by decide +kernel
theorem b_90_40 : (List.range 20).all (fun k => bAt 90 (40 + k)) = true := by decide +kernel
theorem b_90_60 : (List.range 20).all (fun k => bAt 90 (60 + k)) = true := by decide +kernel
theorem b_90_80 : (List.range 10).all (fun k => bAt 90 (80 + k)) = true := by decide +kernel
theorem b_100_0 : (List.range 20).all (fun k => bAt 100 (0 + k)) = true := by decide +kernel
theorem b_100_20 : (List.range 20).all (fun k => bAt 100 (20 + k)) = true := by decide +kernel
theorem b_100_40 : (List.range 20).all (fun k => bAt 100 (40 + k)) = true := by decide +kernel
theorem b_100_60 : (List.range 20).all (fun k => bAt 100 (60 + k)) = true := by decide +kernel
theorem b_100_80 : (List.range 20).all (fun k => bAt 100 (80 + k)) = true := by decide +kernel
theorem b_1 (k : Nat) (h : k < 1) : bAt 1 k = true := by
  have e := List.all_eq_true.mp b_1_0 (k - 0) (List.mem_range.mpr (by omega))
  rw [show 0 + (k - 0) = k by omega] at e
  exact e
theorem b_2 (k : Nat) (h : k < 2) : bAt 2 k = true := by
  have e := List.all_eq_true.mp b_2_0 (k - 0) (List.mem_range.mpr (by omega))
  rw [show 0 + (k - 0) = k by omega] at e
  exact e
theorem b_3 (k : Nat) (h : k < 3) : bAt 3 k = true := by
  have e := List.all_eq_true.mp b_3_0 (k - 0) (List.mem_range.mpr (by omega))
  rw [show 0 + (k - 0) = k by omega] at e
  exact e
theorem b_4 (k : Nat) (h : k < 4) : bAt 4 k = true := by
  have e := List.all_eq_true.mp b_4_0 (k - 0) (List.mem_range.mpr (by omega))
  rw [show 0 + (k - 0) = k by omega] at e
  exact e
theorem b_5 (k : Nat) (h : k < 5) : bAt 5 k = true := by
  have e := List.all_eq_true.mp b_5_0 (k - 0) (List.mem_range.mpr (by omega))
  rw [show 0 + (k - 0) = k by omega] at e
  exact e
theorem b_6 (k : Nat) (h : k < 6) : bAt 6 k = true := by
  have e := List.all_eq_true.mp b_6_0 (k - 0) (List.mem_range.mpr (by omega))
  rw [show 0 + (k - 0) = k by omega] at e
  exact e
theorem b_7 (k : Nat) (h : k < 7) : bAt 7 k = true := by
  have e := List.all_eq_true.mp b_7_0 (k - 0) (List.mem_range.mpr (by omega))
  rw [show 0 + (k - 0) = k by omega] at e
  exact e
theorem b_8 (k : Nat) (h : k < 8) : bAt 8 k = true := by
  have e := List.all_eq_true.mp b_8_0 (k - 0) (List.mem_range.mpr (by omega))
  rw [show 0 + (k - 0) = k by omega] at e
  exact e
theorem b_9 (k : Nat) (h : k < 9) : bAt 9 k = true := by
  have e := List.all_eq_true.mp b_9_0 (k - 0) (List.mem_range.mpr (by omega))
  rw [show 0 + (k - 0) = k by omega] at e
  exact e
theorem b_10 (k : Nat) (h : k < 10) : bAt 10 k = true := by
  have e := List.all_eq_true.mp b_10_0 (k - 0) (List.mem_range.mpr (by omega))
  rw [show 0 + (k - 0) = k by omega] at e
  exact e
theorem b_12 (k : Nat) (h : k < 12) : bAt 12 k = true := by
  have e := List.all_eq_true.mp b_12_0 (k - 0) (List.mem_range.mpr (by omega))
  rw [show 0 + (k - 0) = k by omega] at e
  exact e
theorem b_14 (k : Nat) (h : k < 14) : bAt 14 k = true := by
  have e := List.all_eq_true.mp b_14_0 (k - 0) (List.mem_range.mpr (by omega))
  rw [show 0 + (k - 0) = k by omega] at e
  exact e
theorem b_15 (k : Nat) (h : k < 15) : bAt 15 k = true := by
  have e := List.all_eq_true.mp b_15_0 (k - 0) (List.mem_range.mpr (by omega))
  rw [show 0 + (k - 0) = k by omega] at e
  exact e
theorem b_16 (k : Nat) (h : k < 16) : bAt 16 k = true := by
  have e := List.all_eq_true.mp b_16_0 (k - 0) (List.mem_range.mpr (by omega))
  rw [show 0 + (k - 0) = k by omega] at e
  exact e
theorem b_18 (k : Nat) (h : k < 18) : bAt 18 k = true := by
  have e := List.all_eq_true.mp b_18_0 (k - 0) (List.mem_range.mpr (by omega))
  rw [show 0 + (k - 0) = k by omega] at e
  exact e
theorem b_20 (k : Nat) (h : k < 20) : bAt 20 k = true := by
  have e := List.all_eq_true.mp b_20_0 (k - 0) (List.mem_range.mpr (by omega))
  rw [show 0 + (k - 0) = k by omega] at e
  exact e
theorem b_21 (k : Nat) (h : k < 21) : bAt 21 k = true := by
  by_cases c0 : k < 20
  · have e := List.all_eq_true.mp b_21_0 (k - 0) (List.mem_range.mpr (by omega))
    rw [show 0 + (k - 0) = k by omega] at e
    exact e
  have e := List.all_eq_true.mp b_21_20 (k - 20) (List.mem_range.mpr (by omega))
  rw [show 20 + (k - 20) = k by omega] at e
  exact e
theorem b_24 (k : Nat) (h : k < 24) : bAt 24 k = true := by
  by_cases c0 : k < 20
  · have e := List.all_eq_true.mp b_24_0 (k - 0) (List.mem_range.mpr (by omega))
    rw [show 0 + (k - 0) = k by omega] at e
    exact e
  have e := List.all_eq_true.mp b_24_20 (k - 20) (List.mem_range.mpr (by omega))
  rw [show 20 + (k - 20) = k by omega] at e
  exact e
theorem b_25 (k : Nat) (h : k < 25) : bAt 25 k = true := by
  by_cases c0 : k < 20
  · have e := List.all_eq_true.mp b_25_0 (k - 0) (List.mem_range.mpr (by omega))
    rw [show 0 + (k - 0) = k by omega] at e
    exact e
  have e := List.all_eq_true.mp b_25_20 (k - 20) (List.mem_range.mpr (by omega))
  rw [show 20 + (k - 20) = k by omega] at e
  exact e
theorem b_27 (k : Nat) (h : k < 27) : bAt 27 k = true := by
  by_cases c0 : k < 20
  · have e := List.all_eq_true.mp b_27_0 (k - 0) (List.mem_range.mpr (by omega))
    rw [show 0 + (k - 0) = k by omega] at e
    exact e
  have e := List.all_eq_true.mp b_27_20 (k - 20) (List.mem_range.mpr (by omega))
  rw [show 20 + (k - 20) = k by omega] at e
  exact e
theorem b_28 (k : Nat) (h : k < 28) : bAt 28 k = true := by
  by_cases c0 : k < 20
  · have e := List.all_eq_true.mp b_28_0 (k - 0) (List.mem_range.mpr (by omega))
    rw [show 0 + (k - 0) = k by omega] at e
    exact e
  have e := List.all_eq_true.mp b_28_20 (k - 20) (List.mem_range.mpr (by omega))
  rw [show 20 + (k - 20) = k by omega] at e
  exact e
theorem b_30 (k : Nat) (h : k < 30) : bAt 30 k = true := by
  by_cases c0 : k < 20
  · have e := List.all_eq_true.mp b_30_0 (k - 0) (List.mem_range.mpr (by omega))
    rw [show 0 + (k - 0) = k by omega] at e
    exact e
  have e := List.all_eq_true.mp b_30_20 (k - 20) (List.mem_range.mpr (by omega))
  rw [show 20 + (k - 20) = k by omega] at e
  exact e
theorem b_32 (k : Nat) (h : k < 32) : bAt 32 k = true := by
  by_cases c0 : k < 20
  · have e := List.all_eq_true.mp b_32_0 (k - 0) (List.mem_range.mpr (by omega))
    rw [show 0 + (k - 0) = k by omega] at e
    exact e
  have e := List.all_eq_true.mp b_32_20 (k - 20) (List.mem_range.mpr (by omega))
  rw [show 20 + (k - 20) = k by omega] at e
  exact e
theorem b_35 (k : Nat) (h : k < 35) : bAt 35 k = true := by
  by_cases c0 : k < 20
  · have e := List.all_eq_true.mp b_35_0 (k - 0) (List.mem_range.mpr (by omega))
    rw [show 0 + (k - 0) = k by omega] at e
    exact e
  have e := List.all_eq_true.mp b_35_20 (k - 20) (List.mem_range.mpr (by omega))
  rw [show 20 + (k - 20) = k by omega] at e
  exact e
theorem b_36 (k : Nat) (h : k < 36) : bAt 36 k = true := by
  by_cases c0 : k < 20
  · have e := List.all_eq_true.mp b_36_0 (k - 0) (List.mem_range.mpr (by omega))
    rw [show 0 + (k - 0) = k by omega] at e
    exact e
  have e := List.all_eq_true.mp b_36_20 (k - 20) (List.mem_range.mpr (by omega))
  rw [show 20 + (k - 20) = k by omega] at e
  exact e
theorem b_40 (k : Nat) (h : k < 40) : bAt 40 k = true := by
  by_cases c0 : k < 20
  · have e := List.all_eq_true.mp b_40_0 (k - 0) (List.mem_range.mpr (by omega))
    rw [show 0 + (k - 0) = k by omega] at e
    exact e
  have e := List.all_eq_true.mp b_40_20 (k - 20) (List.mem_range.mpr (by omega))
  rw [show 20 + (k - 20) = k by omega] at e
  exact e
theorem b_42 (k : Nat) (h : k < 42) : bAt 42 k = true := by
  by_cases c0 : k < 20
  · have e := List.all_eq_true.mp b_42_0 (k - 0) (List.mem_range.mpr (by omega))
    rw [show 0 + (k - 0) = k by omega] at e
    exact e
  by_cases c20 : k < 40
  · have e := List.all_eq_true.mp b_42_20 (k - 20) (List.mem_range.mpr (by omega))
    rw [show 20 + (k - 20) = k by omega] at e
    exact e
  have e := List.all_eq_true.mp b_42_40 (k - 40) (List.mem_range.mpr (by omega))
  rw [show 40 + (k - 40) = k by omega] at e
  exact e
theorem b_45 (k : Nat) (h : k < 45) : bAt 45 k = true := by
  by_cases c0 : k < 20
  · have e := List.all_eq_true.mp b_45_0 (k - 0) (List.mem_range.mpr (by omega))
    rw [show 0 + (k - 0) = k by omega] at e
    exact e
  by_cases c20 : k < 40
  · have e := List.all_eq_true.mp b_45_20 (k - 20) (List.mem_range.mpr (by omega))
    rw [show 20 + (k - 20) = k by omega] at e
    exact e
  have e := List.all_eq_true.mp b_45_40 (k - 40) (List.mem_range.mpr (by omega))
  rw [show 40 + (k - 40) = k by omega] at e
  exact e
theorem b_48 (k : Nat) (h : k < 48) : bAt 48 k = true := by
  by_cases c0 : k < 20
  · have e := List.all_eq_true.mp b_48_0 (k - 0) (List.mem_range.mpr (by omega))
    rw [show 0 + (k - 0) = k by omega] at e
    exact e
  by_cases c20 : k < 40
  · have e := List.all_eq_true.mp b_48_20 (k - 20) (List.mem_range.mpr (by omega))
    rw [show 20 + (k - 20) = k by omega] at e
    exact e
  have e := List.all_eq_true.mp b_48_40 (k - 40) (List.mem_range.mpr (by omega))
  rw [show 40 + (k - 40) = k by omega] at e
  exact e
theorem b_49 (k : Nat) (h : k < 49) : bAt 49 k = true := by
  by_cases c0 : k < 20
  · have e := List.all_eq_true.mp b_49_0 (k - 0) (List.mem_range.mpr (by omega))
    rw [show 0 + (k - 0) = k by omega] at e
    exact e
  by_cases c20 : k < 40
  · have e := List.all_eq_true.mp b_49_20 (k - 20) (List.mem_range.mpr (by omega))
    rw [show 20 + (k - 20) = k by omega] at e
    exact e
  have e := List.all_eq_true.mp b_49_40 (k - 40) (List.mem_range.mpr (by omega))
  rw [show 40 + (k - 40) = k by omega] at e
  exact e
theorem b_50 (k : Nat) (h : k < 50) : bAt 50 k = true := by
  by_cases c0 : k < 20
  · have e := List.all_eq_true.mp b_50_0 (k - 0) (List.mem_range.mpr (by omega))
    rw [show 0 + (k - 0) = k by omega] at e
    exact e
  by_cases c20 : k < 40
  · have e := List.all_eq_true.mp b_50_20 (k - 20) (List.mem_range.mpr (by omega))
    rw [show 20 + (k - 20) = k by omega] at e
    exact e
  have e := List.all_eq_true.mp b_50_40 (k - 40) (List.mem_range.mpr (by omega))
  rw [show 40 + (k - 40) = k by omega] at e
  exact e
theorem b_54 (k : Nat) (h : k < 54) : bAt 54 k = true := by
  by_cases c0 : k < 20
  · have e := List.all_eq_true.mp b_54_0 (k - 0) (List.mem_range.mpr (by omega))
    rw [show 0 + (k - 0) = k by omega] at e
    exact e
  by_cases c20 : k < 40
  · have e := List.all_eq_true.mp b_54_20 (k - 20) (List.mem_range.mpr (by omega))
    rw [show 20 + (k - 20) = k by omega] at e
    exact e
  have e := List.all_eq_true.mp b_54_40 (k - 40) (List.mem_range.mpr (by omega))
  rw [show 40 + (k - 40) = k by omega] at e
  exact e
theorem b_56 (k : Nat) (h : k < 56) : bAt 56 k = true := by
  by_cases c0 : k < 20
  · have e := List.all_eq_true.mp b_56_0 (k - 0) (List.mem_range.mpr (by omega))
    rw [show 0 + (k - 0) = k by omega] at e
    exact e
  by_cases c20 : k < 40
  · have e := List.all_eq_true.mp b_56_20 (k - 20) (List.mem_range.mpr (by omega))
    rw [show 20 + (k - 20) = k by omega] at e
    exact e
  have e := List.all_eq_true.mp b_56_40 (k - 40) (List.mem_range.mpr (by omega))
  rw [show 40 + (k - 40) = k by omega] at e
  exact e
theorem b_60 (k : Nat) (h : k < 60) : bAt 60 k = true := by
  by_cases c0 : k < 20
  · have e := List.all_eq_true.mp b_60_0 (k - 0) (List.mem_range.mpr (by omega))
    rw [show 0 + (k - 0) = k by omega] at e
    exact e
  by_cases c20 : k < 40
  · have e := List.all_eq_true.mp b_60_20 (k - 20) (List.mem_range.mpr (by omega))
    rw [show 20 + (k - 20) = k by omega] at e
    exact e
  have e := List.all_eq_true.mp b_60_40 (k - 40) (List.mem_range.mpr (by omega))
  rw [show 40 + (k - 40) = k by omega] at e
  exact e
theorem b_63 (k : Nat) (h : k < 63) : bAt 63 k = true := by
  by_cases c0 : k < 20
  · have e := List.all_eq_true.mp b_63_0 (k - 0) (List.mem_range.mpr (by omega))
    rw [show 0 + (k - 0) = k by omega] at e
    exact e
  by_cases c20 : k < 40
  · have e := List.all_eq_true.mp b_63_20 (k - 20) (List.mem_range.mpr (by omega))
    rw [show 20 + (k - 20) = k by omega] at e
    exact e
  by_cases c40 : k < 60
  · have e := List.all_eq_true.mp b_63_40 (k - 40) (List.mem_range.mpr (by omega))
    rw [show 40 + (k - 40) = k by omega] at e
    exact e
  have e := List.all_eq_true.mp b_63_60 (k - 60) (List.mem_range.mpr (by omega))
  rw [show 60 + (k - 60) = k by omega] at e
  exact e
theorem b_64 (k : Nat) (h : k < 64) : bAt 64 k = true := by
  by_cases c0 : k < 20
  · have e := List.all_eq_true.mp b_64_0 (k - 0) (List.mem_range.mpr (by omega))
    rw [show 0 + (k - 0) = k by omega] at e
    exact e
  by_cases c20 : k < 40
  · have e := List.all_eq_true.mp b_64_20 (k - 20) (List.mem_range.mpr (by omega))
    rw [show 20 + (k - 20) = k by omega] at e
    exact e
  by_cases c40 : k < 60
  · have e := List.all_eq_true.mp b_64_40 (k - 40) (List.mem_range.mpr (by omega))
    rw [show 40 + (k - 40) = k by omega] at e
    exact e
  have e := List.all_eq_true.mp b_64_60 (k - 60) (List.mem_range.mpr (by omega))
  rw [show 60 + (k - 60) = k by omega] at e
  exact e
theorem b_70 (k : Nat) (h : k < 70) : bAt 70 k = true := by
  by_cases c0 : k < 20
  · have e := List.all_eq_true.mp b_70_0 (k - 0) (List.mem_range.mpr (by omega))
    rw [show 0 + (k - 0) = k by omega] at e
    exact e
  by_cases c20 : k < 40
  · have e := List.all_eq_true.mp b_70_20 (k - 20) (List.mem_range.mpr (by omega))
    rw [show 20 + (k - 20) = k by omega] at e
    exact e
  by_cases c40 : k < 60
  · have e := List.all_eq_true.mp b_70_40 (k - 40) (List.mem_range.mpr (by omega))
    rw [show 40 + (k - 40) = k by omega] at e
    exact e
  have e := List.all_eq_true.mp b_70_60 (k - 60) (List.mem_range.mpr (by omega))
  rw [show 60 + (k - 60) = k by omega] at e
  exact e
theorem b_72 (k : Nat) (h : k < 72) : bAt 72 k = true := by
  by_cases c0 : k < 20
  · have e := List.all_eq_true.mp b_72_0 (k - 0) (List.mem_range.mpr (by omega))
    rw [show 0 + (k - 0) = k by omega] at e
    exact e
  by_cases c20 : k < 40
  · have e := List.all_eq_true.mp b_72_20 (k - 20) (List.mem_range.mpr (by omega))
    rw [show 20 + (k - 20) = k by omega] at e
    exact e
  by_cases c40 : k < 60
  · have e := List.all_eq_true.mp b_72_40 (k - 40) (List.mem_range.mpr (by omega))
    rw [show 40 + (k - 40) = k by omega] at e
    exact e
  have e := List.all_eq_true.mp b_72_60 (k - 60) (List.mem_range.mpr (by omega))
  rw [show 60 + (k - 60) = k by omega] at e
  exact e
theorem b_80 (k : Nat) (h : k < 80) : bAt 80 k = true := by
  by_cases c0 : k < 20
  · have e := List.all_eq_true.mp b_80_0 (k - 0) (List.mem_range.mpr (by omega))
    rw [show 0 + (k - 0) = k by omega] at e
    exact e
  by_cases c20 : k < 40
  · have e := List.all_eq_true.mp b_80_20 (k - 20) (List.mem_range.mpr (by omega))
    rw [show 20 + (k - 20) = k by omega] at e
    exact e
  by_cases c40 : k < 60
  · have e := List.all_eq_true.mp b_80_40 (k - 40) (List.mem_range.mpr (by omega))
    rw [show 40 + (k - 40) = k by omega] at e
    exact e
  have e := List.all_eq_true.mp b_80_60 (k - 60) (List.mem_range.mpr (by omega))
  rw [show 60 + (k - 60) = k by omega] at e
  exact e
theorem b_81 (k : Nat) (h : k < 81) : bAt 81 k = true := by
  by_cases c0 : k < 20
  · have e := List.all_eq_true.mp b_81_0 (k - 0) (List.mem_range.mpr (by omega))
    rw [show 0 + (k - 0) = k by omega] at e
    exact e
  by_cases c20 : k < 40
  · have e := List.all_eq_true.mp b_81_20 (k - 20) (List.mem_range.mpr (by omega))
    rw [show 20 + (k - 20) = k by omega] at e
    exact e
  by_cases c40 : k < 60
  · have e := List.all_eq_true.mp b_81_40 (k - 40) (List.mem_range.mpr (by omega))
    rw [show 40 + (k - 40) = k by omega] at e
    exact e
  by_cases c60 : k < 80
  · have e := List.all_eq_true.mp b_81_60 (k - 60) (List.mem_range.mpr (by omega))
    rw [show 60 + (k - 60) = k by omega] at e
    exact e
  have e := List.all_eq_true.mp b_81_80 (k - 80) (List.mem_range.mpr (by omega))
  rw [show 80 + (k - 80) = k by omega] at e
  exact e
theorem b_90 (k : Nat) (h : k < 90) : bAt 90 k = true := by
  by_cases c0 : k < 20
  · have e := List.all_eq_true.mp b_90_0 (k - 0) (List.mem_range.mpr (by omega))
    rw [show 0 + (k - 0) = k by omega] at e
    exact e
  by_cases c20 : k < 40
  · have e := List.all_eq_true.mp b_90_20 (k - 20) (List.mem_range.mpr (by omega))
    rw [show 20 + (k - 20) = k by omega] at e
    exact e
  by_cases c40 : k < 60
  · have e := List.all_eq_true.mp b_90_40 (k - 40) (List.mem_range.mpr (by omega))
    rw [show 40 + (k - 40) = k by omega] at e
    exact e
  by_cases c60 : k < 80
  · have e := List.all_eq_true.mp b_90_60 (k - 60) (List.mem_range.mpr (by omega))
    rw [show 60 + (k - 60) = k by omega] at e
    exact e
  have e := List.all_eq_true.mp b_90_80 (k - 80) (List.mem_range.mpr (by omega))
  rw [show 80 + (k - 80) = k by omega] at e
  exact e
theorem b_100 (k : Nat) (h : k < 100) : bAt 100 k = true := by
  by_cases c0 : k < 20
  · have e := List.all_eq_true.mp b_100_0 (k - 0) (List.mem_range.mpr (by omega))
    rw [show 0 + (k - 0) = k by omega] at e
    exact e
  by_cases c20 : k < 40
  · have e := List.all_eq_true.mp b_100_20 (k - 20) (List.mem_range.mpr (by omega))
    rw [show 20 + (k - 20) = k by omega] at e
    exact e
  by_cases c40 : k < 60
  · have e := List.all_eq_true.mp b_100_40 (k - 40) (List.mem_range.mpr (by omega))
    rw [show 40 + (k - 40) = k by omega] at e
    exact e
  by_cases c60 : k < 80
  · have e := List.all_eq_true.mp b_100_60 (k - 60) (List.mem_range.mpr (by omega))
    rw [show 60 + (k - 60) = k by omega] at e
    exact e
  have e := List.all_eq_true.mp b_100_80 (k - 80) (List.mem_range.mpr (by omega))
  rw [show 80 + (k - 80) = k by omega] at e
  exact e
theorem b_prod {n : Nat} (h : n = 1 ∨ n = 2 ∨ n = 3 ∨ n = 4 ∨ n = 5 ∨ n = 6 ∨ n = 7 ∨ n = 8 ∨ n = 9 ∨ n = 10 ∨ n = 12 ∨ n = 14 ∨ n = 15 ∨ n = 16 ∨ n = 18 ∨ n = 20 ∨ n = 21 ∨ n = 24 ∨ n = 25 ∨ n = 27 ∨ n = 28 ∨ n = 30 ∨ n = 32 ∨ n = 35 ∨ n = 36 ∨ n = 40 ∨ n = 42 ∨ n = 45 ∨ n = 48 ∨ n = 49 ∨ n = 50 ∨ n = 54 ∨ n = 56 ∨ n = 60 ∨ n = 63 ∨ n = 64 ∨ n = 70 ∨ n = 72 ∨ n = 80 ∨ n = 81 ∨ n = 90 ∨ n = 100) {k : Nat} (hk : k < n) : bAt n k = true := by
  rcases h with rfl | rfl | rfl | rfl | rfl | rfl | rfl | rfl | rfl | rfl | rfl | rfl | rfl | rfl | rfl | rfl | rfl | rfl | rfl | rfl | rfl | rfl | rfl | rfl | rfl | rfl | rfl | rfl | rfl | rfl | rfl | rfl | rfl | rfl | rfl | rfl | rfl | rfl | rfl | rfl | rfl | rfl
  · exact b_1 k hk
  · exact b_2 k hk
  · exact b_3 k hk
  · exact b_4 k hk
  · exact b_5 k hk
  · exact b_6 k hk
  · exact b_7 k hk
  · exact b_8 k hk
  · exact b_9 k hk
  · exact b_10 k hk
  · exact b_12 k hk
  · exact b_14 k hk
  · exact b_15 k hk
  · exact b_16 k hk
  · exact b_18 k hk
  · exact b_20 k hk
  · exact b_21 k hk
  · exact b_24 k hk
  · exact b_25 k hk
  · exact b_27 k hk
  · exact b_28 k hk
  · exact b_30 k hk
  · exact b_32 k hk
  · exact b_35 k hk
  · exact b_36 k hk
  · exact b_40 k hk
  · exact b_42 k hk
  · exact b_45 k hk
  · exact b_48 k hk
  · exact b_49 k hk
  · exact b_50 k hk
  · exact b_54 k hk
  · exact b_56 k hk
  · exact b_60 k hk
  · exact b_63 k hk
  · exact b_64 k hk
  · exact b_70 k hk
  · exact b_72 k hk
  · exact b_80 k hk
  · exact b_81 k hk
  · exact b_90 k hk
  · exact b_100 k hk
theorem p_prod : ∀ R : Fin 11, ∀ C : Fin 11, R.val ≠ 0 → C.val ≠ 0 → (C.val * R.val = 1 ∨ C.val * R.val = 2 ∨ C.val * R.val = 3 ∨ C.val * R.val = 4 ∨ C.val * R.val = 5 ∨ C.val * R.val = 6 ∨ C.val * R.val = 7 ∨ C.val * R.val = 8 ∨ C.val * R.val = 9 ∨ C.val * R.val = 10 ∨ C.val * R.val = 12 ∨ C.val * R.val = 14 ∨ C.val * R.val = 15 ∨ C.val * R.val = 16 ∨ C.val * R.val = 18 ∨ C.val * R.val = 20 ∨ C.val * R.val = 21 ∨ C.val * R.val = 24 ∨ C.val * R.val = 25 ∨ C.val * R.val = 27 ∨ C.val * R.val = 28 ∨ C.val * R.val = 30 ∨ C.val * R.val = 32 ∨ C.val * R.val = 35 ∨ C.val * R.val = 36 ∨ C.val * R.val = 40 ∨ C.val * R.val = 42 ∨ C.val * R.val = 45 ∨ C.val * R.val = 48 ∨ C.val * R.val = 49 ∨ C.val * R.val = 50 ∨ C.val * R.val = 54 ∨ C.val * R.val = 56 ∨ C.val * R.val = 60 ∨ C.val * R.val = 63 ∨ C.val * R.val = 64 ∨ C.val * R.val = 70 ∨ C.val * R.val = 72 ∨ C.val * R.val = 80 ∨ C.val * R.val = 81 ∨ C.val * R.val = 90 ∨ C.val * R.val = 100) := by decide +kernel
theorem b_rc {R C k : Int} (hR : 1 ≤ R ∧ R ≤ 10) (hC : 1 ≤ C ∧ C ≤ 10) (hk : 1 ≤ k ∧ k ≤ C * R) : ∃ i : Nat, i ≤ 7 ∧ bOK (dvK k (C * R)) i = true := by
  obtain ⟨r, rfl⟩ : ∃ r : Nat, R = (r : Int) := ⟨R.toNat, by omega⟩
  obtain ⟨c, rfl⟩ : ∃ c : Nat, C = (c : Int) := ⟨C.toNat, by omega⟩
  obtain ⟨j, rfl⟩ : ∃ j : Nat, k = (j : Int) + 1 := ⟨(k - 1).toNat, by omega⟩
  have h1 := p_prod ⟨r, by omega⟩ ⟨c, by omega⟩ (by show r ≠ 0; omega) (by show c ≠ 0; omega)
  have e : ((c : Int) * (r : Int)) = ((c * r : Nat) : Int) := by rw [Int.natCast_mul]
  rw [e] at hk ⊢
  have h2 := b_prod h1 (k := j) (by show j < c * r; omega)
  refine ⟨bi (j + 1) (c * r), ?_, h2⟩
  unfold bi
  repeat' split
  all_goals omega

