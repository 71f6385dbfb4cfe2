/-! Fields: a stack, and the fate of a beginning. -/
def f_st (u : Int32) : Option (Nat × Bool) → Option (Nat × Bool)
  | none => none
  | some (d, s) => if u = 19 then some (d + 1, s) else if u = 20 then some (d, s || d == 0) else if u = 21 then (if d = 0 then none else some (d - 1, s)) else some (d, s)
/-- what k units behind q make of the field that begins at q -/
def f_ft (u : Nat → Int32) (q : Nat) : Nat → Option (Nat × Bool)
  | 0 => some (0, false)
  | k + 1 => f_st (u (q + 1 + k)) (f_ft u q k)
def f_ps (u : Int32) (q : Nat) (L : List (Nat × Bool)) : List (Nat × Bool) := if u = 19 then (q, false) :: L else if u = 20 then (match L with | [] => [] | e :: r => (e.1, true) :: r) else if u = 21 then L.tail else L
/-- the open fields after n units from st on, the last first -/
def f_sk (u : Nat → Int32) (st : Nat) : Nat → List (Nat × Bool)
  | 0 => []
  | n + 1 => f_ps (u (st + n)) (st + n) (f_sk u st n)
/-- what is known of the list: i is how deep its first lies -/
def f_in (u : Nat → Int32) (st p : Nat) : Nat → List (Nat × Bool) → Prop
  | _, [] => True
  | i, e :: r => (st ≤ e.1 ∧ e.1 < p ∧ u e.1 = 19 ∧ f_ft u e.1 (p - (e.1 + 1)) = some (i, e.2) ∧ ∀ x ∈ r, x.1 < e.1) ∧ f_in u st p (i + 1) r
theorem f_ft_s {u : Nat → Int32} {q p : Nat} (h : q < p) : f_ft u q (p + 1 - (q + 1)) = f_st (u p) (f_ft u q (p - (q + 1))) := by
  rw [show p + 1 - (q + 1) = (p - (q + 1)) + 1 by omega, f_ft, show q + 1 + (p - (q + 1)) = p by omega]
theorem f_in_up {u : Nat → Int32} {st p : Nat} (g : Nat → Nat) (hg : ∀ i, g (i + 1) = g i + 1) : ∀ (L : List (Nat × Bool)) (i : Nat), (∀ j s, i ≤ j → f_st (u p) (some (j, s)) = some (g j, s)) → f_in u st p i L → f_in u st (p + 1) (g i) L := by
  intro L
  induction L with
  | nil => intro i _ _; trivial
  | cons e r ih =>
    intro i hj h
    refine ⟨⟨h.1.1, by have := h.1.2.1; omega, h.1.2.2.1, ?_, h.1.2.2.2.2⟩, ?_⟩
    · rw [f_ft_s h.1.2.1, h.1.2.2.2.1, hj i e.2 (Nat.le_refl _)]
    · rw [← hg]
      exact ih (i + 1) (fun j s hs => hj j s (by omega)) h.2
theorem f_sk_lt {u : Nat → Int32} {st p : Nat} : ∀ (L : List (Nat × Bool)) (i : Nat), f_in u st p i L → ∀ x ∈ L, x.1 < p := by
  intro L
  induction L with
  | nil => intro _ _ x hx; simp at hx
  | cons e r ih =>
    intro i h x hx
    rcases List.mem_cons.mp hx with rfl | hx
    · exact h.1.2.1
    · exact ih _ h.2 x hx
theorem f_sk_in {u : Nat → Int32} {st : Nat} : ∀ n, f_in u st (st + n) 0 (f_sk u st n) := by
  intro n
  induction n with
  | zero => trivial
  | succ n ih =>
    rw [f_sk, ← Nat.add_assoc]
    unfold f_ps
    by_cases h19 : u (st + n) = 19
    · rw [if_pos h19]
      refine ⟨⟨by omega, by omega, h19, ?_, ?_⟩, ?_⟩
      · show f_ft u (st + n) (st + n + 1 - (st + n + 1)) = some (0, false)
        rw [Nat.sub_self]; rfl
      · exact f_sk_lt _ _ ih
      · exact f_in_up (· + 1) (fun _ => rfl) _ 0 (fun j s _ => by unfold f_st; simp only [h19, if_true]) ih
    rw [if_neg h19]
    by_cases h20 : u (st + n) = 20
    · rw [if_pos h20]
      cases hL : f_sk u st n with
      | nil => trivial
      | cons e r =>
        rw [hL] at ih
        refine ⟨⟨ih.1.1, by have := ih.1.2.1; omega, ih.1.2.2.1, ?_, ih.1.2.2.2.2⟩, ?_⟩
        · rw [f_ft_s ih.1.2.1, ih.1.2.2.2.1]
          unfold f_st
          simp only [h20]
          simp
        · refine f_in_up (p := st + n) id (fun _ => rfl) _ 1 (fun j s hj => ?_) ih.2
          unfold f_st
          simp only [h20]
          simp [show j ≠ 0 by omega]
    rw [if_neg h20]
    by_cases h21 : u (st + n) = 21
    · rw [if_pos h21]
      cases hL : f_sk u st n with
      | nil => trivial
      | cons e r =>
        rw [hL] at ih
        show f_in u st (st + n + 1) 0 r
        have : ∀ (L : List (Nat × Bool)) (i : Nat), f_in u st (st + n) (i + 1) L → f_in u st (st + n + 1) i L := by
          intro L
          induction L with
          | nil => intro i _; trivial
          | cons e r ih =>
            intro i h
            refine ⟨⟨h.1.1, by have := h.1.2.1; omega, h.1.2.2.1, ?_, h.1.2.2.2.2⟩, ih _ h.2⟩
            rw [f_ft_s h.1.2.1, h.1.2.2.2.1]
            unfold f_st
            simp only [h21]
            simp
        exact this r 0 ih.2
    rw [if_neg h21]
    exact f_in_up (p := st + n) id (fun _ => rfl) _ 0 (fun j s _ => by unfold f_st; simp only [h19, h20, h21, if_false, id]) ih
/-- an open field stands in the list -/
theorem f_sk_of {u : Nat → Int32} {st : Nat} : ∀ n q, st ≤ q → q < st + n → u q = 19 → ∀ d s, f_ft u q (st + n - (q + 1)) = some (d, s) → ∃ s', (q, s') ∈ f_sk u st n := by
  intro n
  induction n with
  | zero => intro q h1 h2; omega
  | succ n ih =>
    intro q h1 h2 h3 d s h
    rw [f_sk]
    unfold f_ps
    by_cases hq : q = st + n
    · subst hq
      rw [if_pos h3]
      exact ⟨false, List.mem_cons_self⟩
    · have hq2 : q < st + n := by omega
      rw [← Nat.add_assoc, f_ft_s hq2] at h
      cases hf : f_ft u q (st + n - (q + 1)) with
      | none => rw [hf] at h; exact absurd h (by unfold f_st; simp)
      | some e =>
        obtain ⟨d', s'⟩ := e
        obtain ⟨s2, hm⟩ := ih q h1 hq2 h3 d' s' hf
        by_cases h19 : u (st + n) = 19
        · rw [if_pos h19]; exact ⟨s2, List.mem_cons_of_mem _ hm⟩
        rw [if_neg h19]
        by_cases h20 : u (st + n) = 20
        · rw [if_pos h20]
          cases hL : f_sk u st n with
          | nil => rw [hL] at hm; simp at hm
          | cons e r =>
            rw [hL] at hm
            rcases List.mem_cons.mp hm with rfl | hm
            · exact ⟨true, List.mem_cons_self⟩
            · exact ⟨s2, List.mem_cons_of_mem _ hm⟩
        rw [if_neg h20]
        by_cases h21 : u (st + n) = 21
        · rw [if_pos h21]
          have hin := f_sk_in (u := u) (st := st) n
          cases hL : f_sk u st n with
          | nil => rw [hL] at hm; simp at hm
          | cons e r =>
            rw [hL] at hm hin
            rcases List.mem_cons.mp hm with rfl | hm
            · have := hin.1.2.2.2.1
              rw [show f_ft u q (st + n - (q + 1)) = some (0, s2) from this, h21] at h
              exact absurd h (by unfold f_st; simp)
            · exact ⟨s2, hm⟩
        rw [if_neg h21]
        exact ⟨s2, hm⟩
theorem f_in_mem {u : Nat → Int32} {st p : Nat} : ∀ (L : List (Nat × Bool)) (i : Nat), f_in u st p i L → ∀ x ∈ L, (st ≤ x.1 ∧ x.1 < p ∧ u x.1 = 19 ∧ ∃ d, f_ft u x.1 (p - (x.1 + 1)) = some (d, x.2)) := by
  intro L
  induction L with
  | nil => intro _ _ x hx; simp at hx
  | cons e r ih =>
    intro i h x hx
    rcases List.mem_cons.mp hx with rfl | hx
    · exact ⟨h.1.1, h.1.2.1, h.1.2.2.1, i, h.1.2.2.2.1⟩
    · exact ih _ h.2 x hx
/-- how many of a .. a + k - 1 -/
noncomputable def f_cn (P : Nat → Prop) (a : Nat) : Nat → Nat
  | 0 => 0
  | k + 1 => f_cn P a k + @ite _ (P (a + k)) (Classical.propDecidable _) 1 0
theorem f_cn_le {P : Nat → Prop} {a : Nat} : ∀ k, f_cn P a k ≤ k := by
  intro k
  induction k with
  | zero => exact Nat.le_refl _
  | succ k ih => rw [f_cn]; split <;> omega
theorem f_cn_t {P : Nat → Prop} {a k : Nat} (h : P (a + k)) : f_cn P a (k + 1) = f_cn P a k + 1 := by rw [f_cn, if_pos h]
theorem f_cn_f {P : Nat → Prop} {a k : Nat} (h : ¬ P (a + k)) : f_cn P a (k + 1) = f_cn P a k := by rw [f_cn, if_neg h]; rfl
theorem f_cn_c {P Q : Nat → Prop} {a : Nat} : ∀ k, (∀ i, i < k → (P (a + i) ↔ Q (a + i))) → f_cn P a k = f_cn Q a k := by
  intro k
  induction k with
  | zero => intro _; rfl
  | succ k ih =>
    intro h
    by_cases q : P (a + k)
    · rw [f_cn_t q, f_cn_t ((h k (by omega)).mp q), ih (fun i hi => h i (by omega))]
    · rw [f_cn_f q, f_cn_f (fun e => q ((h k (by omega)).mpr e)), ih (fun i hi => h i (by omega))]
theorem f_cn_len {u : Nat → Int32} {st p : Nat} {a : Nat} : ∀ (k : Nat) (L : List (Nat × Bool)) (i : Nat), a = st → f_in u st p i L → (∀ x ∈ L, x.1 < a + k) → f_cn (fun q => ∃ s, (q, s) ∈ L) a k = L.length := by
  intro k
  induction k with
  | zero =>
    intro L i ha h hb
    cases L with
    | nil => rfl
    | cons e r => have := hb e List.mem_cons_self; have := h.1.1; omega
  | succ k ih =>
    intro L i ha h hb
    cases L with
    | nil =>
      rw [f_cn_f (by simp), ih [] 0 ha trivial (by simp)]
    | cons e r =>
      by_cases he : e.1 = a + k
      · rw [f_cn_t ⟨e.2, by rw [← he]; exact List.mem_cons_self⟩]
        rw [f_cn_c (Q := fun q => ∃ s, (q, s) ∈ r) k (fun i hi => ?_), ih r _ ha h.2 (fun x hx => by have := h.1.2.2.2.2 x hx; omega)]
        · rfl
        · constructor
          · rintro ⟨s, hs⟩
            rcases List.mem_cons.mp hs with hs | hs
            · rw [← hs] at he; simp at he; omega
            · exact ⟨s, hs⟩
          · rintro ⟨s, hs⟩
            exact ⟨s, List.mem_cons_of_mem _ hs⟩
      · have hlt : ∀ x ∈ e :: r, x.1 < a + k := by
          intro x hx
          have h1 := hb e List.mem_cons_self
          rcases List.mem_cons.mp hx with rfl | hx
          · omega
          · have := h.1.2.2.2.2 x hx; omega
        rw [f_cn_f (fun ⟨s, hs⟩ => absurd (hlt _ hs) (by simp)), ih (e :: r) i ha h hlt]
/-- depth -/
theorem f_depth {u : Nat → Int32} {st n : Nat} : f_cn (fun q => u q = 19 ∧ ∃ e, f_ft u q (st + n - (q + 1)) = some e) st n = (f_sk u st n).length := by
  have hin := f_sk_in (u := u) (st := st) n
  rw [← f_cn_len n (f_sk u st n) 0 rfl hin (f_sk_lt _ _ hin)]
  refine f_cn_c n (fun i hi => ⟨fun ⟨h1, ⟨d, s⟩, h2⟩ => f_sk_of n (st + i) (by omega) (by omega) h1 d s h2, fun ⟨s, hs⟩ => ?_⟩)
  obtain ⟨-, -, h3, d, h4⟩ := f_in_mem _ _ hin _ hs
  exact ⟨h3, _, h4⟩
/-- shown -/
theorem f_shown {u : Nat → Int32} {st n : Nat} : (∀ e ∈ f_sk u st n, e.2 = true) ↔ ∀ q, st ≤ q → q < st + n → u q = 19 → ∀ d s, f_ft u q (st + n - (q + 1)) = some (d, s) → s = true := by
  have hin := f_sk_in (u := u) (st := st) n
  constructor
  · intro h q h1 h2 h3 d s h4
    obtain ⟨s', hm⟩ := f_sk_of n q h1 h2 h3 d s h4
    obtain ⟨-, -, -, d', h5⟩ := f_in_mem _ _ hin _ hm
    rw [h4] at h5
    have := h _ hm
    simp at h5 this
    rw [h5.2, this]
  · intro h e he
    obtain ⟨h1, h2, h3, d, h4⟩ := f_in_mem _ _ hin _ he
    exact h e.1 h1 h2 h3 d e.2 h4
