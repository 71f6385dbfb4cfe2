/-! Chains: pure. -/
theorem v_pig : ∀ (n : Nat) (l : List Nat), l.Nodup → (∀ x ∈ l, x < n) → l.length ≤ n := by
  intro n
  induction n with
  | zero =>
    intro l _ h
    cases l with
    | nil => exact Nat.le_refl _
    | cons x l => exact absurd (h x List.mem_cons_self) (Nat.not_lt_zero _)
  | succ n ih =>
    intro l hl h
    by_cases hm : n ∈ l
    · have h1 := List.length_erase_of_mem hm
      have h2 := ih (l.erase n) (hl.erase n) (fun x hx => by
        have h3 := h x (List.mem_of_mem_erase hx)
        have h4 : x ≠ n := (List.Nodup.mem_erase_iff hl).mp hx |>.1
        omega)
      omega
    · have h2 := ih l hl (fun x hx => by
        have h3 := h x hx
        have h4 : x ≠ n := fun e => hm (e ▸ hx)
        omega)
      omega
section CH
variable {nx : Nat → Int32} {ok : Int32 → Prop}
theorem s_ch_end (F : Nat) : s_ch nx ok F (-2) = some [] := by
  cases F <;> simp [s_ch]
theorem s_ch_no {F : Nat} {s : Int32} (h1 : ¬ s = -2) (h2 : ¬ ok s) : s_ch nx ok F s = none := by
  cases F with
  | zero => simp [s_ch, h1]
  | succ F => rw [s_ch, if_neg h1, if_neg h2]
theorem s_ch_go {F : Nat} {s : Int32} (h1 : ¬ s = -2) (h2 : ok s) : s_ch nx ok (F + 1) s = (s_ch nx ok F (nx s.toNatClampNeg)).map (fun l => s.toNatClampNeg :: l) := by
  rw [s_ch, if_neg h1, if_pos h2]
theorem s_ch_0 {s : Int32} (h1 : ¬ s = -2) : s_ch nx ok 0 s = none := by simp [s_ch, h1]
/-- a way along the chain, from a over the members l to s -/
def s_path (nx : Nat → Int32) (ok : Int32 → Prop) : Int32 → List Nat → Int32 → Prop
  | a, [], s => a = s
  | a, n :: l, s => a = Int32.ofNat n ∧ n < 2147483648 ∧ ok a ∧ s_path nx ok (nx n) l s
theorem s_path_app : ∀ (l : List Nat) {a s : Int32} {n : Nat}, s_path nx ok a l s → s = Int32.ofNat n → n < 2147483648 → ok s → s_path nx ok a (l ++ [n]) (nx n) := by
  intro l
  induction l with
  | nil =>
    intro a s n h h1 h2 h3
    cases h
    exact ⟨h1, h2, h3, rfl⟩
  | cons m l ih =>
    intro a s n h h1 h2 h3
    exact ⟨h.1, h.2.1, h.2.2.1, ih h.2.2.2 h1 h2 h3⟩
theorem s_path_mem : ∀ (l : List Nat) {a s : Int32} {n : Nat}, s_path nx ok a l s → n ∈ l → ∃ l2, s_path nx ok (Int32.ofNat n) (n :: l2) s ∧ l2.length + 1 ≤ l.length := by
  intro l
  induction l with
  | nil => intro a s n _ h; cases h
  | cons m l ih =>
    intro a s n h hn
    by_cases e : n = m
    · subst e
      refine ⟨l, ⟨rfl, h.2.1, ?_, h.2.2.2⟩, Nat.le_refl _⟩
      rw [← h.1]
      exact h.2.2.1
    · obtain ⟨l2, h1, h2⟩ := ih h.2.2.2 ((List.mem_cons.mp hn).resolve_left e)
      exact ⟨l2, h1, by simp; omega⟩
theorem s_ch_path (hok : ¬ ok (-2)) : ∀ (l : List Nat) {a s : Int32} (F : Nat), s_path nx ok a l s → s_ch nx ok (l.length + F) a = (s_ch nx ok F s).map (fun r => l ++ r) := by
  intro l
  induction l with
  | nil =>
    intro a s F h
    cases h
    simp
  | cons n l ih =>
    intro a s F h
    obtain ⟨h1, h2, h3, h4⟩ := h
    have hne : ¬ a = -2 := fun e => hok (e ▸ h3)
    rw [show (n :: l).length + F = (l.length + F) + 1 by simp; omega, s_ch_go hne h3]
    have e : a.toNatClampNeg = n := by rw [h1]; exact v_ofx h2
    rw [e, ih F h4, Option.map_map]
    rfl
theorem s_ch_less (hok : ¬ ok (-2)) : ∀ (l : List Nat) {a s : Int32} (F : Nat), s_path nx ok a l s → F < l.length → s_ch nx ok F a = none := by
  intro l
  induction l with
  | nil => intro a s F _ h; simp at h
  | cons n l ih =>
    intro a s F h hF
    obtain ⟨h1, h2, h3, h4⟩ := h
    have hne : ¬ a = -2 := fun e => hok (e ▸ h3)
    cases F with
    | zero => exact s_ch_0 hne
    | succ F =>
      have e : a.toNatClampNeg = n := by rw [h1]; exact v_ofx h2
      rw [s_ch_go hne h3, e, ih F h4 (by simp at hF; omega)]
      rfl
theorem s_ch_loop (hok : ¬ ok (-2)) {s : Int32} {n : Nat} {l : List Nat} (h : s_path nx ok s (n :: l) s) : ∀ F, s_ch nx ok F s = none := by
  intro F
  induction F using Nat.strongRecOn with
  | ind F ih =>
    by_cases hF : F < (n :: l).length
    · exact s_ch_less hok _ F h hF
    · have e : F = (n :: l).length + (F - (n :: l).length) := by omega
      rw [e, s_ch_path hok _ _ h, ih (F - (n :: l).length) (by simp at hF ⊢; omega)]
      rfl
/-- what a chain has: no member twice; each is listed -/
theorem s_ch_mem : ∀ (F : Nat) {s : Int32} {l : List Nat}, s_ch nx ok F s = some l → ∀ n ∈ l, ∃ x : Int32, ok x ∧ n = x.toNatClampNeg := by
  intro F
  induction F with
  | zero =>
    intro s l h n hn
    by_cases h1 : s = -2
    · rw [h1, s_ch_end] at h
      cases h
      cases hn
    · rw [s_ch_0 h1] at h; cases h
  | succ F ih =>
    intro s l h n hn
    by_cases h1 : s = -2
    · rw [h1, s_ch_end] at h
      cases h
      cases hn
    · by_cases h2 : ok s
      · rw [s_ch_go h1 h2] at h
        obtain ⟨r, hr, rfl⟩ := Option.map_eq_some_iff.mp h
        rcases List.mem_cons.mp hn with e | e
        · exact ⟨s, h2, e⟩
        · exact ih hr n e
      · rw [s_ch_no h1 h2] at h; cases h
end CH
