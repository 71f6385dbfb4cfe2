/-! Bits of words; long words by integers. -/
/-- bits 5 to 7 -/
def g_cl (x : Int32) : Nat := (x.toBitVec.toNat >>> 5) % 8
theorem g_cl_lt (x : Int32) : g_cl x < 8 := Nat.mod_lt _ (by decide)
theorem g_cl_7 (v : BitVec 32) (n : Nat) (h : ∀ i, i < 3 → v.getLsbD i = n.testBit i) : v &&& 7#32 = BitVec.ofNat 32 (n % 8) := by
  apply BitVec.eq_of_getLsbD_eq
  intro i hi
  rw [show (8 : Nat) = 2 ^ 3 from rfl]
  simp only [BitVec.getLsbD_and, BitVec.getLsbD_ofNat, Nat.testBit_mod_two_pow]
  by_cases h8 : i < 3
  · have e : ∀ j, j < 3 → Nat.testBit 7 j = true := by decide
    rw [h i h8, e i h8]
    simp [h8, hi]
  · have e : ∀ j, j < 32 → 3 ≤ j → Nat.testBit 7 j = false := by decide
    rw [e i hi (by omega)]
    simp [h8]
theorem g_cl_s (x : Int32) : x >>> (5 &&& 31) &&& 7 = Int32.ofNat (g_cl x) := by
  apply Int32.toBitVec_inj.mp
  show (x.toBitVec.sshiftRight 5) &&& 7#32 = BitVec.ofNat 32 ((x.toBitVec.toNat >>> 5) % 8)
  apply g_cl_7
  intro i hi
  rw [BitVec.getLsbD_sshiftRight, Nat.testBit_shiftRight]
  have h1 : 5 + i < 32 := by omega
  simp [h1, show i < 32 by omega, BitVec.getLsbD]
theorem g_cl_u (x : Int32) : (x.toUInt32 >>> (Int32.toUInt32 5 &&& Int32.toUInt32 31)).toInt32 &&& 7 = Int32.ofNat (g_cl x) := by
  apply Int32.toBitVec_inj.mp
  show (x.toBitVec >>> 5) &&& 7#32 = BitVec.ofNat 32 ((x.toBitVec.toNat >>> 5) % 8)
  apply g_cl_7
  intro i hi
  rw [BitVec.getLsbD_ushiftRight, Nat.testBit_shiftRight]
  rfl
theorem n_bit {k : Nat} (hk : k < 2147483648) : Int32.ofNat k &&& 1073741824 = if k < 1073741824 then 0 else 1073741824 := by
  apply Int32.toBitVec_inj.mp
  have e : ∀ j, j < 32 → (Nat.testBit 1073741824 j = decide (j = 30)) := by decide
  by_cases h : k < 1073741824
  · rw [if_pos h]
    show BitVec.ofNat 32 k &&& 1073741824#32 = 0#32
    apply BitVec.eq_of_getLsbD_eq
    intro i hi
    simp only [BitVec.getLsbD_and, BitVec.getLsbD_ofNat, e i hi]
    by_cases h2 : i = 30
    · subst h2
      rw [Nat.testBit_lt_two_pow (show k < 2 ^ 30 by omega)]
      simp
    · simp [h2]
  · rw [if_neg h]
    show BitVec.ofNat 32 k &&& 1073741824#32 = 1073741824#32
    apply BitVec.eq_of_getLsbD_eq
    intro i hi
    simp only [BitVec.getLsbD_and, BitVec.getLsbD_ofNat, e i hi]
    by_cases h2 : i = 30
    · subst h2
      have : k.testBit 30 = true := by
        rw [Nat.testBit_eq_decide_div_mod_eq]
        have : k / 2 ^ 30 = 1 := by omega
        rw [this]; rfl
      rw [this]
      simp
    · simp [h2]
theorem n_low {k : Nat} (hk : k < 2147483648) : Int32.ofNat k &&& -1073741825 = Int32.ofNat (k % 1073741824) := by
  apply Int32.toBitVec_inj.mp
  show BitVec.ofNat 32 k &&& 3221225471#32 = BitVec.ofNat 32 (k % 1073741824)
  apply BitVec.eq_of_getLsbD_eq
  intro i hi
  rw [show (1073741824 : Nat) = 2 ^ 30 from rfl]
  simp only [BitVec.getLsbD_and, BitVec.getLsbD_ofNat, Nat.testBit_mod_two_pow]
  have e : ∀ j, j < 32 → (Nat.testBit 3221225471 j = !decide (j = 30)) := by decide
  rw [e i hi]
  by_cases h1 : i < 30
  · simp [h1, show i ≠ 30 by omega, hi]
  · by_cases h2 : i = 30
    · simp [h2]
    · have h3 : i = 31 := by omega
      subst h3
      rw [Nat.testBit_lt_two_pow (show k < 2 ^ 31 by omega)]
      simp
theorem l_i {x : Int32} : x.toInt64 = Int64.ofInt x.toInt := by
  rw [← Int64.toInt_inj, Int32.toInt_toInt64, Int64.toInt_ofInt_of_le]
  · have := Int32.le_toInt x; omega
  · have := Int32.toInt_lt x; omega
theorem l_add {a b : Int} : Int64.ofInt a + Int64.ofInt b = Int64.ofInt (a + b) := (Int64.ofInt_add a b).symm
theorem l_mul {a b : Int} : Int64.ofInt a * Int64.ofInt b = Int64.ofInt (a * b) := (Int64.ofInt_mul a b).symm
theorem l_to {a : Int} (h1 : -2147483648 ≤ a) (h2 : a < 2147483648) : (Int64.ofInt a).toInt32 = Int32.ofInt a := by
  rw [← Int32.toInt_inj, Int64.toInt_toInt32, Int64.toInt_ofInt_of_le (by omega) (by omega), Int32.toInt_ofInt]
theorem l_ofn {n : Nat} : Int32.ofInt (n : Int) = Int32.ofNat n := rfl
def l_b (a : Int) : Prop := -1099511627776 ≤ a ∧ a < 1099511627776
theorem l_lt {a b : Int} (ha : l_b a) (hb : l_b b) : (Int64.ofInt a < Int64.ofInt b) ↔ a < b := by
  unfold l_b at ha hb
  rw [Int64.lt_iff_toInt_lt, Int64.toInt_ofInt_of_le (by omega) (by omega), Int64.toInt_ofInt_of_le (by omega) (by omega)]
theorem l_eq {a b : Int} (ha : l_b a) (hb : l_b b) : (Int64.ofInt a = Int64.ofInt b) ↔ a = b := by
  unfold l_b at ha hb
  rw [← Int64.toInt_inj, Int64.toInt_ofInt_of_le (by omega) (by omega), Int64.toInt_ofInt_of_le (by omega) (by omega)]
theorem l_cmp {a b : Int} (ha : l_b a) (hb : l_b b) : lg_cmp (Int64.ofInt a) (Int64.ofInt b) = if b < a then 1 else if a = b then 0 else -1 := by
  unfold lg_cmp
  simp only [gt_iff_lt, l_lt hb ha, l_eq ha hb]
theorem l_clt {a b : Int} (ha : l_b a) (hb : l_b b) : (lg_cmp (Int64.ofInt a) (Int64.ofInt b) < 0) ↔ a < b := by
  rw [l_cmp ha hb]
  split
  · simp only [show ((1 : Int32) < 0) = False by decide, false_iff]; omega
  · split
    · simp only [show ((0 : Int32) < 0) = False by decide, false_iff]; omega
    · simp only [show ((-1 : Int32) < 0) = True by decide, true_iff]; omega
theorem l_cge {a b : Int} (ha : l_b a) (hb : l_b b) : (0 ≤ lg_cmp (Int64.ofInt a) (Int64.ofInt b)) ↔ b ≤ a := by
  rw [← Int32.not_lt, l_clt ha hb]; omega
theorem l_cgt {a b : Int} (ha : l_b a) (hb : l_b b) : (0 < lg_cmp (Int64.ofInt a) (Int64.ofInt b)) ↔ b < a := by
  rw [l_cmp ha hb]
  split
  · simp only [show ((0 : Int32) < 1) = True by decide, true_iff]; omega
  · split
    · simp only [show ((0 : Int32) < 0) = False by decide, false_iff]; omega
    · simp only [show ((0 : Int32) < -1) = False by decide, false_iff]; omega
theorem l_cle {a b : Int} (ha : l_b a) (hb : l_b b) : (lg_cmp (Int64.ofInt a) (Int64.ofInt b) ≤ 0) ↔ a ≤ b := by
  rw [← Int32.not_lt, l_cgt ha hb]; omega
theorem l_ceq {a b : Int} (ha : l_b a) (hb : l_b b) : (lg_cmp (Int64.ofInt a) (Int64.ofInt b) = 0) ↔ a = b := by
  rw [l_cmp ha hb]
  split
  · simp only [show ((1 : Int32) = 0) = False by decide, false_iff]; omega
  · split
    · simp only [true_iff]; omega
    · simp only [show ((-1 : Int32) = 0) = False by decide, false_iff]; omega
