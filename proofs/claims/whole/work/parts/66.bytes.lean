/-! Bytes of a word. -/
def vby (x : Int32) (i : Nat) : Nat := (x.toBitVec.toNat >>> (8 * i)) % 256
theorem vby_lt (x : Int32) (i : Nat) : vby x i < 256 := Nat.mod_lt _ (by decide)
theorem vby_255 (v : BitVec 32) (n : Nat) (h : ∀ i, i < 8 → v.getLsbD i = n.testBit i) : v &&& 255#32 = BitVec.ofNat 32 (n % 256) := by
  apply BitVec.eq_of_getLsbD_eq
  intro i hi
  rw [show (256 : Nat) = 2 ^ 8 from rfl]
  simp only [BitVec.getLsbD_and, BitVec.getLsbD_ofNat, Nat.testBit_mod_two_pow]
  by_cases h8 : i < 8
  · have e : ∀ j, j < 8 → Nat.testBit 255 j = true := by decide
    rw [h i h8, e i h8]
    simp [h8, hi]
  · have e : ∀ j, j < 32 → 8 ≤ j → Nat.testBit 255 j = false := by decide
    rw [e i hi (by omega)]
    simp [h8]
theorem vby_s (x : Int32) (n : Nat) (hn : n ≤ 24) : (x.toBitVec.sshiftRight n) &&& 255#32 = BitVec.ofNat 32 ((x.toBitVec.toNat >>> n) % 256) := by
  apply vby_255
  intro i hi
  rw [BitVec.getLsbD_sshiftRight, Nat.testBit_shiftRight]
  have h1 : n + i < 32 := by omega
  simp [h1, show i < 32 by omega, BitVec.getLsbD]
theorem vby_u (x : Int32) (n : Nat) (hn : n ≤ 24) : (x.toBitVec >>> n) &&& 255#32 = BitVec.ofNat 32 ((x.toBitVec.toNat >>> n) % 256) := by
  apply vby_255
  intro i hi
  rw [BitVec.getLsbD_ushiftRight, Nat.testBit_shiftRight]
  rfl
theorem vby_shr (x : Int32) {i : Nat} (hi : i < 4) : x >>> (8 * Int32.ofNat i &&& 31) &&& 255 = Int32.ofNat (vby x i) := by
  apply Int32.toBitVec_inj.mp
  match i, hi with
  | 0, _ => exact vby_s x 0 (by decide)
  | 1, _ => exact vby_s x 8 (by decide)
  | 2, _ => exact vby_s x 16 (by decide)
  | 3, _ => exact vby_s x 24 (by decide)
theorem vby_ushr (x : Int32) {i : Nat} (hi : i < 4) : (x.toUInt32 >>> ((8 * Int32.ofNat i).toUInt32 &&& Int32.toUInt32 31)).toInt32 &&& 255 = Int32.ofNat (vby x i) := by
  apply Int32.toBitVec_inj.mp
  match i, hi with
  | 0, _ => exact vby_u x 0 (by decide)
  | 1, _ => exact vby_u x 8 (by decide)
  | 2, _ => exact vby_u x 16 (by decide)
  | 3, _ => exact vby_u x 24 (by decide)
