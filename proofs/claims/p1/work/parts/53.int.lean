/-! Ints of 32 bits as integers. -/
theorem vz_le {x y : Int32} : x ≤ y ↔ x.toInt ≤ y.toInt := Int32.le_iff_toInt_le
theorem vz_lt {x y : Int32} : x < y ↔ x.toInt < y.toInt := Int32.lt_iff_toInt_lt
theorem vz_eq {x y : Int32} : x = y ↔ x.toInt = y.toInt := Int32.toInt_inj.symm
theorem vz_hi (x : Int32) : x.toInt < 2147483648 := Int32.toInt_lt x
theorem vz_lo (x : Int32) : -2147483648 ≤ x.toInt := Int32.le_toInt x
theorem vz_ix {x : Int32} : x.toNatClampNeg = x.toInt.toNat := rfl
theorem vz_bm {a : Int} (h1 : -2147483648 ≤ a) (h2 : a < 2147483648) : a.bmod (2 ^ 32) = a := by
  rw [Int.bmod_eq_of_le] <;> omega
theorem vz_add {x y : Int32} (h1 : -2147483648 ≤ x.toInt + y.toInt) (h2 : x.toInt + y.toInt < 2147483648) : (x + y).toInt = x.toInt + y.toInt := by
  rw [Int32.toInt_add, vz_bm h1 h2]
theorem vz_sub {x y : Int32} (h1 : -2147483648 ≤ x.toInt - y.toInt) (h2 : x.toInt - y.toInt < 2147483648) : (x - y).toInt = x.toInt - y.toInt := by
  rw [Int32.toInt_sub, vz_bm h1 h2]
theorem vz_mul {x y : Int32} (h1 : -2147483648 ≤ x.toInt * y.toInt) (h2 : x.toInt * y.toInt < 2147483648) : (x * y).toInt = x.toInt * y.toInt := by
  rw [Int32.toInt_mul, vz_bm h1 h2]
theorem vz_test {p : Int32} (h1 : 0 ≤ p) (h2 : p ≤ 47) : 0 ≤ 4 * p + 3 ∧ (4 * p + 3).toNatClampNeg < 192 := by
  simp only [vz_le, vz_lt, vz_ix, Int32.toInt_add, Int32.toInt_mul, Int.bmod, Int32.reduceToInt] at *
  omega
theorem vq_1 : ((1 : Int32) = 0) = False := by decide
theorem vq_2 : ((2 : Int32) = 0) = False := by decide
theorem vq_3 : ((3 : Int32) = 0) = False := by decide
theorem vq_4 : ((4 : Int32) = 0) = False := by decide
theorem vq_5 : ((5 : Int32) = 0) = False := by decide
theorem vq_6 : ((6 : Int32) = 0) = False := by decide
theorem vq_7 : ((7 : Int32) = 0) = False := by decide
theorem vq_8 : ((8 : Int32) = 0) = False := by decide
theorem vq_9 : ((9 : Int32) = 0) = False := by decide
theorem vq_10 : ((10 : Int32) = 0) = False := by decide
theorem vq_11 : ((11 : Int32) = 0) = False := by decide
theorem vq_12 : ((12 : Int32) = 0) = False := by decide
theorem vq_13 : ((13 : Int32) = 0) = False := by decide
theorem vq_14 : ((14 : Int32) = 0) = False := by decide
theorem vq_15 : ((15 : Int32) = 0) = False := by decide
theorem vq_16 : ((16 : Int32) = 0) = False := by decide
theorem vq_17 : ((17 : Int32) = 0) = False := by decide
theorem vq_18 : ((18 : Int32) = 0) = False := by decide
theorem vq_19 : ((19 : Int32) = 0) = False := by decide
theorem vq_20 : ((20 : Int32) = 0) = False := by decide
theorem vq_m1 : ((-1 : Int32) = 0) = False := by decide
theorem vq_00 : ((0 : Int32) = 0) = True := by decide
