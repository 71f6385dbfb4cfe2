/-! Answers that are yes or no; loops that ask the same of each number. -/
noncomputable def vtf (p : Prop) : Int32 := @ite _ p (Classical.propDecidable p) 1 0
theorem vtf_t {p : Prop} (h : p) : vtf p = 1 := by unfold vtf; rw [if_pos h]
theorem vtf_f {p : Prop} (h : ¬ p) : vtf p = 0 := by unfold vtf; rw [if_neg h]
theorem vtf_T : vtf True = 1 := vtf_t trivial
theorem vtf_F : vtf False = 0 := vtf_f (fun h => h)
theorem vtf_0 {p : Prop} : (vtf p = 0) ↔ ¬ p := by
  by_cases h : p
  · rw [vtf_t h]; simp [h]
  · rw [vtf_f h]; simp [h]
theorem vtf_1 {p : Prop} : (vtf p = 1) ↔ p := by
  by_cases h : p
  · rw [vtf_t h]; simp [h]
  · rw [vtf_f h]; simp [h]
theorem vtf_01 {p : Prop} : (vtf p = 0 ∨ vtf p = 1) ↔ True := by
  by_cases h : p
  · rw [vtf_t h]; simp
  · rw [vtf_f h]; simp
theorem vtf_c {p q : Prop} (h : p ↔ q) : vtf p = vtf q := by rw [propext h]
/-- two ways to two answers: one answer -/
theorem vtf_two {p : Prop} {f : Int32 → Prop} : (p → f 1) ∧ (¬ p → f 0) ↔ f (vtf p) := by
  by_cases h : p
  · rw [vtf_t h]; simp [h]
  · rw [vtf_f h]; simp [h]
theorem vtf_two' {p : Prop} {f : Int32 → Prop} : (¬ p → f 0) ∧ (p → f 1) ↔ f (vtf p) := by rw [And.comm]; exact vtf_two
theorem v_loop_all {n : Nat} {P : Nat → Prop} {K : Nat → Prop} {Ke Kf : Prop} (step : ∀ i, i < n → (K i ↔ (P i → K (i + 1)) ∧ (¬ P i → Kf))) (exit : K n ↔ Ke) : ∀ i, i ≤ n → (K i ↔ ((∀ j, i ≤ j → j < n → P j) → Ke) ∧ (¬ (∀ j, i ≤ j → j < n → P j) → Kf)) := by
  have key : ∀ d i, i + d = n → (K i ↔ ((∀ j, i ≤ j → j < n → P j) → Ke) ∧ (¬ (∀ j, i ≤ j → j < n → P j) → Kf)) := by
    intro d
    induction d with
    | zero =>
      intro i hi
      have : i = n := by omega
      subst this
      rw [exit]
      have hv : ∀ j, i ≤ j → j < i → P j := fun j h1 h2 => by omega
      exact ⟨fun h => ⟨fun _ => h, fun h2 => absurd hv h2⟩, fun h => h.1 hv⟩
    | succ d ih =>
      intro i hi
      rw [step i (by omega), ih (i + 1) (by omega)]
      by_cases hp : P i
      · have e : (∀ j, i ≤ j → j < n → P j) ↔ (∀ j, i + 1 ≤ j → j < n → P j) := by
          constructor
          · exact fun h j h1 h2 => h j (by omega) h2
          · intro h j h1 h2
            by_cases hj : j = i
            · rw [hj]; exact hp
            · exact h j (by omega) h2
        rw [e]
        simp only [hp, true_imp_iff, not_true_eq_false, false_imp_iff, and_true]
      · have e : ¬ (∀ j, i ≤ j → j < n → P j) := fun h => hp (h i (Nat.le_refl _) (by omega))
        simp only [hp, e, false_imp_iff, true_and, not_false_eq_true, true_imp_iff]
  exact fun i hi => key (n - i) i (by omega)
theorem v_ofn {n : Nat} (h : n < 2147483648) : (Int32.ofNat n).toInt = (n : Int) := Int32.toInt_ofNat_of_lt h
theorem v_ofx {n : Nat} (h : n < 2147483648) : (Int32.ofNat n).toNatClampNeg = n := Int32.toNatClampNeg_ofNat_of_lt h
theorem v_inc {n : Nat} : Int32.ofNat n + 1 = Int32.ofNat (n + 1) := (Int32.ofNat_add n 1).symm
theorem v_oflt {a b : Nat} (ha : a < 2147483648) (hb : b < 2147483648) : (Int32.ofNat a < Int32.ofNat b) ↔ a < b := by
  rw [vz_lt, v_ofn ha, v_ofn hb]
  omega
theorem v_ofle {a b : Nat} (ha : a < 2147483648) (hb : b < 2147483648) : (Int32.ofNat a ≤ Int32.ofNat b) ↔ a ≤ b := by
  rw [vz_le, v_ofn ha, v_ofn hb]
  omega
theorem v_ofeq {a b : Nat} (ha : a < 2147483648) (hb : b < 2147483648) : (Int32.ofNat a = Int32.ofNat b) ↔ a = b := by
  rw [vz_eq, v_ofn ha, v_ofn hb]
  omega
theorem v_nat {x : Int32} (h : 0 ≤ x) : ∃ n : Nat, x = Int32.ofNat n ∧ n < 2147483648 ∧ (n : Int) = x.toInt := by
  refine ⟨x.toNatClampNeg, ?_, ?_, ?_⟩
  · rw [vz_eq, v_ofn]
    · simp only [vz_le, vz_ix, Int32.reduceToInt] at *
      omega
    · have := vz_hi x
      simp only [vz_ix]
      omega
  · have := vz_hi x
    simp only [vz_ix]
    omega
  · simp only [vz_le, vz_ix, Int32.reduceToInt] at *
    omega
