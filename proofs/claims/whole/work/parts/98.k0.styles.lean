/-! Bands: which one. Styles: parents, looks. -/
theorem b_ex {lim : Nat → Int} {p : Int} : ∀ n, (∀ i, i < n → lim i < lim (i + 1)) → lim 0 ≤ p → p < lim n → ∃ i, i < n ∧ ∀ j, j ≤ n → (lim j ≤ p ↔ j ≤ i) := by
  intro n
  induction n with
  | zero => intro _ h1 h2; omega
  | succ n ih =>
    intro h h0 hp
    have hm : ∀ d, d ≤ n → lim (n - d) ≤ lim n := by
      intro d
      induction d with
      | zero => intro _; exact Int.le_refl _
      | succ d ihd =>
        intro hd
        have := ihd (by omega)
        have := h (n - (d + 1)) (by omega)
        rw [show n - (d + 1) + 1 = n - d by omega] at this
        omega
    by_cases hn : p < lim n
    · obtain ⟨i, hi, hj⟩ := ih (fun i hi => h i (by omega)) h0 hn
      refine ⟨i, by omega, fun j hj2 => ?_⟩
      by_cases e : j = n + 1
      · subst e
        have := h n (by omega)
        constructor <;> intro <;> omega
      · exact hj j (by omega)
    · refine ⟨n, by omega, fun j hj => ?_⟩
      by_cases e : j = n + 1
      · subst e
        constructor <;> intro <;> omega
      · have := hm (n - j) (by omega)
        rw [show n - (n - j) = j by omega] at this
        constructor <;> intro <;> omega
/-- the band of p -/
noncomputable def b_of (lim : Nat → Int32) (n : Nat) (p : Int32) : Nat := @dite _ (∃ i, i < n ∧ ∀ j, j ≤ n → (lim j ≤ p ↔ j ≤ i)) (Classical.propDecidable _) (fun h => h.choose) (fun _ => 0)
def b_ok (lim : Nat → Int32) (n : Nat) (T : Int32) : Prop := (∀ i, i < n → lim i < lim (i + 1)) ∧ lim 0 = 0 ∧ lim n = T
theorem b_of_ok {lim : Nat → Int32} {n : Nat} {T p : Int32} (h : b_ok lim n T) (h0 : 0 ≤ p) (hT : p < T) : b_of lim n p < n ∧ ∀ j, j ≤ n → (lim j ≤ p ↔ j ≤ b_of lim n p) := by
  have he : ∃ i, i < n ∧ ∀ j, j ≤ n → (lim j ≤ p ↔ j ≤ i) := by
    obtain ⟨i, hi, hj⟩ := b_ex (lim := fun j => (lim j).toInt) (p := p.toInt) n (fun i hi => Int32.lt_iff_toInt_lt.mp (h.1 i hi)) (by show (lim 0).toInt ≤ _; rw [h.2.1]; exact Int32.le_iff_toInt_le.mp h0) (by show _ < (lim n).toInt; rw [h.2.2]; exact Int32.lt_iff_toInt_lt.mp hT)
    exact ⟨i, hi, fun j hj2 => by rw [Int32.le_iff_toInt_le]; exact hj j hj2⟩
  unfold b_of
  rw [dif_pos he]
  exact he.choose_spec
/-- k steps up -/
def y_k (par : Nat → Int32) : Nat → Nat → Option Nat
  | 0, s => some s
  | k + 1, s => if par s = -1 then none else y_k par k (par s).toNatClampNeg
def y_rg (par : Nat → Int32) (n : Nat) : Prop := ∀ s, s < n → par s = -1 ∨ ∃ z, z < n ∧ par s = Int32.ofNat z
theorem y_of {z : Nat} (h : z < 2147483648) : (Int32.ofNat z).toNatClampNeg = z := by
  rw [Int32.toNatClampNeg_ofNat_of_lt (by simpa using h)]
theorem y_nm {z : Nat} (h : z < 2147483648) : ¬ Int32.ofNat z = -1 := by
  intro e
  have : (Int32.ofNat z).toInt = (-1 : Int32).toInt := by rw [e]
  rw [Int32.toInt_ofNat_of_lt (by simpa using h)] at this
  have h2 : (-1 : Int32).toInt = -1 := by decide
  omega
theorem y_k_lt {par : Nat → Int32} {n : Nat} (hn : n ≤ 10) (hr : y_rg par n) : ∀ k s z, s < n → y_k par k s = some z → z < n := by
  intro k
  induction k with
  | zero => intro s z hs h; rw [y_k] at h; injection h with h; omega
  | succ k ih =>
    intro s z hs h
    rw [y_k] at h
    rcases hr s hs with h1 | ⟨y, hy, h1⟩
    · rw [if_pos h1] at h; exact absurd h (by simp)
    · rw [h1, if_neg (y_nm (by omega)), y_of (by omega)] at h
      exact ih y z hy h
theorem y_k_add {par : Nat → Int32} : ∀ a b s, y_k par (a + b) s = (y_k par a s).bind (y_k par b) := by
  intro a
  induction a with
  | zero => intro b s; rw [Nat.zero_add]; rfl
  | succ a ih =>
    intro b s
    rw [show a + 1 + b = (a + b) + 1 by omega, y_k, y_k]
    split
    · rfl
    · exact ih b _
/-- no way up comes back -/
theorem y_ac {par : Nat → Int32} {n : Nat} (hn : n ≤ 10) (hr : y_rg par n) (h : ∀ s, s < n → ∀ j, 1 ≤ j → j ≤ 11 → ¬ y_k par j s = some s) : ∀ s, s < n → y_k par n s = none := by
  intro s hs
  cases hz : y_k par n s with
  | none => rfl
  | some z =>
    exfalso
    have hsome : ∀ i, i ≤ n → ∃ z, y_k par i s = some z := by
      intro i hi
      cases hi2 : y_k par i s with
      | some z => exact ⟨z, rfl⟩
      | none =>
        rw [show n = i + (n - i) by omega, y_k_add, hi2] at hz
        exact absurd hz (by simp)
    have hg : ∀ i, i ≤ n → y_k par i s = some ((y_k par i s).getD 0) := by
      intro i hi
      obtain ⟨z, hz⟩ := hsome i hi
      rw [hz]; rfl
    have hnd : ((List.range (n + 1)).map (fun i => (y_k par i s).getD 0)).Nodup := by
      unfold List.Nodup
      rw [List.pairwise_map]
      refine List.Pairwise.imp_of_mem (R := fun a b => a < b) (fun {a b} ha hb hab he => ?_) List.pairwise_lt_range
      have ha := List.mem_range.mp ha
      have hb := List.mem_range.mp hb
      have e1 := hg a (by omega)
      have e2 := hg b (by omega)
      have e3 := y_k_add (par := par) a (b - a) s
      rw [show a + (b - a) = b by omega, e1, e2] at e3
      have e4 : y_k par (b - a) ((y_k par a s).getD 0) = some ((y_k par a s).getD 0) := by
        rw [← he] at e3
        exact e3.symm
      exact h _ (y_k_lt hn hr a s _ hs e1) (b - a) (by omega) (by omega) e4
    have := v_pig n _ hnd (fun x hx => by
      obtain ⟨i, hi, rfl⟩ := List.mem_map.mp hx
      exact y_k_lt hn hr i s _ hs (hg i (by have := List.mem_range.mp hi; omega)))
    rw [List.length_map, List.length_range] at this
    omega
theorem y_k_up {par : Nat → Int32} {a b s : Nat} (hab : a ≤ b) (h : y_k par a s = none) : y_k par b s = none := by
  rw [show b = a + (b - a) by omega, y_k_add, h]; rfl
theorem y_ca {par : Nat → Int32} {n : Nat} (h : ∀ s, s < n → y_k par 10 s = none) : ∀ s, s < n → ∀ j, 1 ≤ j → ¬ y_k par j s = some s := by
  intro s hs j hj e
  have : ∀ m, y_k par (j * m) s = some s := by
    intro m
    induction m with
    | zero => rfl
    | succ m ih => rw [Nat.mul_succ, y_k_add, ih]; exact e
  have h1 := this 10
  rw [y_k_up (show 10 ≤ j * 10 by omega) (h s hs)] at h1
  exact absurd h1 (by simp)
/-- the class's walk up -/
def y_cl (par : Nat → Int32) (n : Nat) : Nat → Int32 → Int32
  | 0, x => x
  | k + 1, x => if 0 ≤ x ∧ x < Int32.ofNat n then y_cl par n k (par x.toNatClampNeg) else x
theorem y_cl_no {par : Nat → Int32} {n : Nat} {x : Int32} (h : ¬ (0 ≤ x ∧ x < Int32.ofNat n)) : ∀ k, y_cl par n k x = x := by
  intro k
  cases k with
  | zero => rfl
  | succ k => rw [y_cl, if_neg h]
theorem y_rgx {n : Nat} (hn : n ≤ 10) {x : Int32} : (x = -1 ∨ ∃ z, z < n ∧ x = Int32.ofNat z) ↔ -1 ≤ x ∧ x < Int32.ofNat n := by
  have hN : (Int32.ofNat n).toInt = n := by rw [Int32.toInt_ofNat_of_lt (by simp; omega)]
  have h1 : (-1 : Int32).toInt = -1 := by decide
  rw [Int32.le_iff_toInt_le, Int32.lt_iff_toInt_lt, hN, h1]
  constructor
  · rintro (rfl | ⟨z, hz, rfl⟩)
    · rw [h1]; omega
    · rw [Int32.toInt_ofNat_of_lt (by simp; omega)]; omega
  · rintro ⟨a, b⟩
    by_cases e : x.toInt = -1
    · left; exact Int32.toInt_inj.mp (by rw [e, h1])
    · right
      have hh : x.toInt.toNat < 2147483648 := by omega
      refine ⟨x.toInt.toNat, by omega, Int32.toInt_inj.mp ?_⟩
      rw [Int32.toInt_ofNat_of_lt hh]
      omega
theorem y_cl_in {n : Nat} (hn : n ≤ 10) {z : Nat} (hz : z < n) : 0 ≤ Int32.ofNat z ∧ Int32.ofNat z < Int32.ofNat n := by
  rw [Int32.le_iff_toInt_le, Int32.lt_iff_toInt_lt, Int32.toInt_ofNat_of_lt (by simp; omega), Int32.toInt_ofNat_of_lt (by simp; omega)]
  have h1 : (0 : Int32).toInt = 0 := by decide
  omega
theorem y_cl_k {par : Nat → Int32} {n : Nat} (hn : n ≤ 10) (hr : y_rg par n) : ∀ k s, s < n → (y_cl par n k (Int32.ofNat s) = -1 ↔ y_k par k s = none) := by
  intro k
  induction k with
  | zero => intro s hs; rw [y_cl, y_k]; simp [y_nm (show s < 2147483648 by omega)]
  | succ k ih =>
    intro s hs
    rw [y_cl, if_pos (y_cl_in hn hs), y_of (by omega), y_k]
    rcases hr s hs with h1 | ⟨z, hz, h1⟩
    · rw [h1, if_pos rfl, y_cl_no (fun q => absurd q.1 (by decide))]
      simp
    · rw [h1, if_neg (y_nm (by omega)), y_of (by omega)]
      exact ih z hz
theorem y_cl_rg {par : Nat → Int32} {n : Nat} (hn : n ≤ 10) {s : Nat} (hs : s < n) (h : y_cl par n 10 (Int32.ofNat s) = -1) : par s = -1 ∨ ∃ z, z < n ∧ par s = Int32.ofNat z := by
  rw [y_cl, if_pos (y_cl_in hn hs), y_of (by omega)] at h
  by_cases g : 0 ≤ par s ∧ par s < Int32.ofNat n
  · rw [y_rgx hn]
    refine ⟨?_, g.2⟩
    have := Int32.le_iff_toInt_le.mp g.1
    have h1 : (-1 : Int32).toInt = -1 := by decide
    have h0 : (0 : Int32).toInt = 0 := by decide
    rw [Int32.le_iff_toInt_le, h1]
    omega
  · rw [y_cl_no g] at h
    exact Or.inl h
/-- the reference's walk up -/
def y_cy (par : Nat → Int32) (s : Nat) : Nat → Int32 → Prop
  | 0, _ => True
  | k + 1, x => x < 0 ∨ (¬ x = Int32.ofNat s ∧ y_cy par s k (par x.toNatClampNeg))
theorem y_cy_k {par : Nat → Int32} {n s : Nat} (hn : n ≤ 10) (hs : s < n) (hr : y_rg par n) : ∀ k y, y < n → (y_cy par s k (par y) ↔ ∀ j, 1 ≤ j → j ≤ k → ¬ y_k par j y = some s) := by
  intro k
  induction k with
  | zero => intro y hy; simp only [y_cy, true_iff]; intro j h1 h2; omega
  | succ k ih =>
    intro y hy
    rw [y_cy]
    rcases hr y hy with h1 | ⟨z, hz, h1⟩
    · rw [h1]
      simp only [show ((-1 : Int32) < 0) = True by decide, true_or, true_iff]
      intro j hj _ e
      rw [show j = (j - 1) + 1 by omega, y_k, if_pos h1] at e
      exact absurd e (by simp)
    · rw [h1, y_of (by omega), ih z hz]
      have hne : ¬ Int32.ofNat z < 0 := Int32.not_lt.mpr (y_cl_in hn hz).1
      simp only [hne, false_or]
      have hst : ∀ j, y_k par (j + 1) y = y_k par j z := by
        intro j
        rw [y_k, h1, if_neg (y_nm (by omega)), y_of (by omega)]
      constructor
      · rintro ⟨a, b⟩ j hj hjk
        rw [show j = (j - 1) + 1 by omega, hst]
        by_cases e : j = 1
        · subst e
          intro e
          rw [y_k] at e
          injection e with e
          exact a (by rw [e])
        · exact b (j - 1) (by omega) (by omega)
      · intro h
        refine ⟨fun e => ?_, fun j hj hjk => ?_⟩
        · refine h 1 (by omega) (by omega) ?_
          rw [hst, y_k]
          have := congrArg Int32.toNatClampNeg e
          rw [y_of (by omega), y_of (by omega)] at this
          rw [this]
        · rw [← hst]; exact h (j + 1) (by omega) (by omega)
/-- rule 17's parents, both ways -/
theorem y_rule {par : Nat → Int32} {n : Nat} (hn : n ≤ 10) : (∀ s, s < n → y_cl par n 10 (Int32.ofNat s) = -1) ↔ (∀ s, s < n → -1 ≤ par s ∧ par s < Int32.ofNat n) ∧ ∀ s, s < n → y_cy par s 11 (par s) := by
  constructor
  · intro h
    have hr : y_rg par n := fun s hs => y_cl_rg hn hs (h s hs)
    refine ⟨fun s hs => (y_rgx hn).mp (hr s hs), fun s hs => (y_cy_k hn hs hr 11 s hs).mpr (fun j hj _ => ?_)⟩
    exact y_ca (fun s hs => (y_cl_k hn hr 10 s hs).mp (h s hs)) s hs j hj
  · rintro ⟨h1, h2⟩
    have hr : y_rg par n := fun s hs => (y_rgx hn).mpr (h1 s hs)
    intro s hs
    rw [y_cl_k hn hr 10 s hs]
    exact y_k_up hn (y_ac hn hr (fun s hs => (y_cy_k hn hs hr 11 s hs).mp (h2 s hs)) s hs)
theorem y_rule2 {par : Nat → Int32} {n : Nat} (hn : n ≤ 10) (h : ∀ s, s < n → y_cl par n 10 (Int32.ofNat s) = -1) : y_rg par n ∧ ∀ s, s < n → y_k par n s = none := by
  have hr : y_rg par n := fun s hs => y_cl_rg hn hs (h s hs)
  refine ⟨hr, y_ac hn hr (fun s hs j hj _ => ?_)⟩
  exact y_ca (fun s hs => (y_cl_k hn hr 10 s hs).mp (h s hs)) s hs j hj
/-- the look of a style: ap s g is what the style's own group makes of g -/
def y_lk {L : Type} (par : Nat → Int32) (pl : L) (ap : Nat → L → L) : Nat → Nat → L
  | 0, _ => pl
  | k + 1, s => ap s (if par s = -1 then pl else y_lk par pl ap k (par s).toNatClampNeg)
theorem y_lk_s {L : Type} {par : Nat → Int32} {pl : L} {ap : Nat → L → L} : ∀ k s, y_k par k s = none → y_lk par pl ap (k + 1) s = y_lk par pl ap k s := by
  intro k
  induction k with
  | zero => intro s h; exact absurd h (by simp [y_k])
  | succ k ih =>
    intro s h
    rw [y_k] at h
    show ap s (if par s = -1 then pl else y_lk par pl ap (k + 1) (par s).toNatClampNeg) = ap s (if par s = -1 then pl else y_lk par pl ap k (par s).toNatClampNeg)
    by_cases e : par s = -1
    · rw [if_pos e, if_pos e]
    · rw [if_neg e] at h
      rw [if_neg e, if_neg e, ih _ h]
theorem y_lk_eq {L : Type} {par : Nat → Int32} {pl : L} {ap : Nat → L → L} {s : Nat} (h : y_k par 10 s = none) : y_lk par pl ap 10 s = ap s (if par s = -1 then pl else y_lk par pl ap 10 (par s).toNatClampNeg) := by
  rw [← y_lk_s 10 s h]
  rfl
