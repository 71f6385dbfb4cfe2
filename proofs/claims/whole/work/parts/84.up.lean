/-! The way up from an entry: pure. -/
def s_it (par : Nat → Nat × Nat) (k : Nat) : Nat → Nat
  | 0 => k
  | t + 1 => (par (s_it par k t)).1
theorem s_it_s (par : Nat → Nat × Nat) (k t : Nat) : s_it par k (t + 1) = s_it par (par k).1 t := by
  induction t with
  | zero => rfl
  | succ t ih => rw [s_it, ih, s_it]
theorem s_it_add (par : Nat → Nat × Nat) (k a b : Nat) : s_it par k (a + b) = s_it par (s_it par k a) b := by
  induction b with
  | zero => rfl
  | succ b ih => rw [← Nat.add_assoc, s_it, ih, s_it]
/-- a tree of entries, by its links and its ways back -/
def t_tree (L : Nat → Nat → Nat) (n : Nat) (o : List Nat) (par : Nat → Nat × Nat) : Prop := n ≤ 12 ∧ o.Nodup ∧ (∀ x ∈ o, x < n) ∧ 0 ∈ o ∧ t_ok L n ∧ (∀ k, k ∈ o ↔ t_rch L k) ∧ ∀ k, k ∈ o → k ≠ 0 → (par k).1 ∈ o ∧ t_edge L (par k).1 (par k).2 ∧ L (par k).1 (par k).2 = k
section UP
variable {L : Nat → Nat → Nat} {n : Nat} {o : List Nat} {par : Nat → Nat × Nat}
theorem t_zero (h : t_tree L n o par) {k : Nat} (hk : k ∈ o) : ∃ m, s_it par k m = 0 ∧ ∀ t, t < m → s_it par k t ∈ o ∧ s_it par k t ≠ 0 := by
  obtain ⟨h1, h2, h3, h4, h5, h6, h7⟩ := h
  have hr := (h6 k).mp hk
  have key : k ∈ o ∧ ∃ m, s_it par k m = 0 ∧ ∀ t, t < m → s_it par k t ∈ o ∧ s_it par k t ≠ 0 := by
    refine hr (fun k => k ∈ o ∧ ∃ m, s_it par k m = 0 ∧ ∀ t, t < m → s_it par k t ∈ o ∧ s_it par k t ≠ 0) ⟨h4, 0, rfl, fun t ht => absurd ht (Nat.not_lt_zero _)⟩ (fun a j ha he => ?_)
    obtain ⟨hao, m, hm1, hm2⟩ := ha
    have hlo : L a j ∈ o := (h6 _).mpr (t_rchs ((h6 a).mp hao) he)
    have hl0 : L a j ≠ 0 := by have := he.2.2; omega
    obtain ⟨q1, q2, q3⟩ := h7 _ hlo hl0
    obtain ⟨e1, e2⟩ := h5.2 _ _ a j ((h6 _).mp q1) ((h6 a).mp hao) q2 he q3
    refine ⟨hlo, m + 1, by rw [s_it_s, e1]; exact hm1, fun t ht => ?_⟩
    cases t with
    | zero => exact ⟨hlo, hl0⟩
    | succ t => rw [s_it_s, e1]; exact hm2 t (by omega)
  exact key.2
/-- the number of steps up is small -/
theorem t_few (h : t_tree L n o par) {k m : Nat} (h0 : s_it par k m = 0) (hm : ∀ t, t < m → s_it par k t ∈ o ∧ s_it par k t ≠ 0) : m ≤ 11 := by
  obtain ⟨h1, h2, h3, h4, h5, h6, h7⟩ := h
  have hnd : ((List.range (m + 1)).map (s_it par k)).Nodup := by
    have hinj : ∀ a b, a < b → b ≤ m → s_it par k a ≠ s_it par k b := by
      intro a b hab hb e
      have e1 : s_it par k (a + (m - b)) = 0 := by
        rw [s_it_add, e, ← s_it_add, show b + (m - b) = m by omega]
        exact h0
      exact (hm (a + (m - b)) (by omega)).2 e1
    unfold List.Nodup
    rw [List.pairwise_map]
    refine List.Pairwise.imp_of_mem ?_ (List.pairwise_lt_range)
    intro a b ha hb hab
    exact hinj a b hab (by have := List.mem_range.mp hb; omega)
  have := v_pig n _ hnd (fun x hx => by
    obtain ⟨t, ht, rfl⟩ := List.mem_map.mp hx
    have ht := List.mem_range.mp ht
    by_cases e : t = m
    · rw [e, h0]
      exact h3 0 h4
    · exact h3 _ (hm t (by omega)).1)
  simp at this
  omega
/-- from k it is u steps up to the top of its tree -/
def t_up (o : List Nat) (par : Nat → Nat × Nat) (k u : Nat) : Prop := u ≤ 10 ∧ (par (s_it par k u)).2 = 2 ∧ (∀ t, t < u → ¬ (par (s_it par k t)).2 = 2) ∧ ∀ t, t ≤ u → s_it par k t ∈ o ∧ s_it par k t ≠ 0
theorem t_up_ex (h : t_tree L n o par) {k : Nat} (hk : k ∈ o) (hk0 : k ≠ 0) : ∃ u, t_up o par k u := by
  obtain ⟨m, h0, hm⟩ := t_zero h hk
  have hfew := t_few h h0 hm
  have hm0 : m ≠ 0 := fun e => by rw [e] at h0; exact hk0 h0
  have key : ∀ d t, t + d = m - 1 → (∀ s, s < t → ¬ (par (s_it par k s)).2 = 2) → ∃ u, u ≤ m - 1 ∧ (par (s_it par k u)).2 = 2 ∧ ∀ s, s < u → ¬ (par (s_it par k s)).2 = 2 := by
    intro d
    induction d with
    | zero =>
      intro t ht hs
      obtain ⟨q1, q2⟩ := hm t (by omega)
      obtain ⟨r1, r2, r3⟩ := h.2.2.2.2.2.2 _ q1 q2
      have e0 : (par (s_it par k t)).1 = 0 := by
        have : s_it par k (t + 1) = 0 := by rw [show t + 1 = m by omega]; exact h0
        exact this
      exact ⟨t, by omega, r2.2.1 e0, hs⟩
    | succ d ih =>
      intro t ht hs
      by_cases e : (par (s_it par k t)).2 = 2
      · exact ⟨t, by omega, e, hs⟩
      · exact ih (t + 1) (by omega) (fun s hs2 => by
          by_cases e2 : s = t
          · rw [e2]; exact e
          · exact hs s (by omega))
  obtain ⟨u, u1, u2, u3⟩ := key (m - 1) 0 (by omega) (fun s hs => absurd hs (Nat.not_lt_zero _))
  exact ⟨u, by omega, u2, u3, fun t ht => hm t (by omega)⟩
/-- the left link leads here just if the way here is a left one -/
theorem t_left (h : t_tree L n o par) {k : Nat} (hk : k ∈ o) (hk0 : k ≠ 0) (h2 : ¬ (par k).2 = 2) : (L (par k).1 0 = k ↔ (par k).2 = 0) := by
  obtain ⟨q1, q2, q3⟩ := h.2.2.2.2.2.2 k hk hk0
  constructor
  · intro e
    have hp0 : (par k).1 ≠ 0 := fun e0 => h2 (q2.2.1 e0)
    have he : t_edge L (par k).1 0 := ⟨by decide, fun e0 => absurd e0 hp0, by omega⟩
    obtain ⟨-, e2⟩ := h.2.2.2.2.1.2 _ _ _ _ ((h.2.2.2.2.2.1 _).mp q1) ((h.2.2.2.2.2.1 _).mp q1) q2 he (q3.trans e.symm)
    exact e2
  · intro e
    rw [e] at q3
    exact q3
end UP
