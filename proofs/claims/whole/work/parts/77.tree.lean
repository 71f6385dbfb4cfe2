/-! The tree of entries: pure. L a j: link j of entry a (0 left, 1 right, 2 child). -/
def t_edge (L : Nat → Nat → Nat) (a j : Nat) : Prop := j < 3 ∧ (a = 0 → j = 2) ∧ 0 < L a j
def t_rch (L : Nat → Nat → Nat) (k : Nat) : Prop := ∀ P : Nat → Prop, P 0 → (∀ a j, P a → t_edge L a j → P (L a j)) → P k
theorem t_rch0 {L : Nat → Nat → Nat} : t_rch L 0 := fun _ h _ => h
theorem t_rchs {L : Nat → Nat → Nat} {a j : Nat} (h : t_rch L a) (he : t_edge L a j) : t_rch L (L a j) := fun P h0 hs => hs a j (h P h0 hs) he
/-- every reached entry's links stay inside, none is reached twice -/
def t_ok (L : Nat → Nat → Nat) (n : Nat) : Prop := (∀ a j, t_rch L a → t_edge L a j → L a j < n) ∧ ∀ a j b i, t_rch L a → t_rch L b → t_edge L a j → t_edge L b i → L a j = L b i → a = b ∧ j = i
/-- while links are followed: R reached, F followed, par by which link; of c the links below J -/
def t_inv (L : Nat → Nat → Nat) (n : Nat) (R F : Nat → Prop) (par : Nat → Nat × Nat) (c J : Nat) : Prop := R 0 ∧ (∀ k, R k → t_rch L k ∧ k < n) ∧ (∀ k, F k → R k) ∧ (∀ k, R k → k ≠ 0 → ((F (par k).1 ∨ ((par k).1 = c ∧ (par k).2 < J)) ∧ t_edge L (par k).1 (par k).2 ∧ L (par k).1 (par k).2 = k)) ∧ (∀ a j, F a → t_edge L a j → R (L a j) ∧ par (L a j) = (a, j)) ∧ ∀ j, j < J → t_edge L c j → R (L c j) ∧ par (L c j) = (c, j)
section TR
variable {L : Nat → Nat → Nat} {n c J : Nat} {R F : Nat → Prop} {par : Nat → Nat × Nat}
theorem t_start (hn : 0 < n) : t_inv L n (fun k => k = 0) (fun _ => False) par c 0 :=
  ⟨rfl, fun k h => by subst h; exact ⟨t_rch0, hn⟩, fun _ h => h.elim, fun k h h0 => absurd h h0, fun _ _ h => h.elim, fun j hj => absurd hj (Nat.not_lt_zero _)⟩
theorem t_skip (h : t_inv L n R F par c J) (he : ¬ t_edge L c J) : t_inv L n R F par c (J + 1) := by
  obtain ⟨h0, h1, h2, h3, h4, h5⟩ := h
  refine ⟨h0, h1, h2, fun k hk hk0 => ?_, h4, fun j hj hej => ?_⟩
  · obtain ⟨a, b, d⟩ := h3 k hk hk0
    exact ⟨a.imp id (fun q => ⟨q.1, Nat.lt_succ_of_lt q.2⟩), b, d⟩
  · by_cases e : j = J
    · subst e; exact absurd hej he
    · exact h5 j (by omega) hej
theorem t_mark (h : t_inv L n R F par c J) (hc : R c) (he : t_edge L c J) (hn : L c J < n) (hr : ¬ R (L c J)) : t_inv L n (fun k => R k ∨ k = L c J) F (fun k => if k = L c J then (c, J) else par k) c (J + 1) := by
  obtain ⟨h0, h1, h2, h3, h4, h5⟩ := h
  refine ⟨Or.inl h0, fun k hk => ?_, fun k hk => Or.inl (h2 k hk), fun k hk hk0 => ?_, fun a j ha hej => ?_, fun j hj hej => ?_⟩
  · rcases hk with hk | rfl
    · exact h1 k hk
    · exact ⟨t_rchs (h1 c hc).1 he, hn⟩
  · by_cases e : k = L c J
    · subst e
      dsimp only
      rw [if_pos rfl]
      exact ⟨Or.inr ⟨rfl, Nat.lt_succ_self _⟩, he, rfl⟩
    · dsimp only
      rw [if_neg e]
      obtain ⟨a, b, d⟩ := h3 k (hk.resolve_right e) hk0
      exact ⟨a.imp id (fun q => ⟨q.1, Nat.lt_succ_of_lt q.2⟩), b, d⟩
  · obtain ⟨q1, q2⟩ := h4 a j ha hej
    have e : ¬ L a j = L c J := fun e => hr (e ▸ q1)
    exact ⟨Or.inl q1, by dsimp only; rw [if_neg e]; exact q2⟩
  · by_cases e : j = J
    · subst e
      exact ⟨Or.inr rfl, by dsimp only; rw [if_pos rfl]⟩
    · obtain ⟨q1, q2⟩ := h5 j (by omega) hej
      have e2 : ¬ L c j = L c J := fun e => hr (e ▸ q1)
      exact ⟨Or.inl q1, by dsimp only; rw [if_neg e2]; exact q2⟩
theorem t_fail (h : t_inv L n R F par c J) (hc : R c) (hf : ¬ F c) (he : t_edge L c J) (hb : n ≤ L c J ∨ R (L c J)) : ¬ t_ok L n := by
  obtain ⟨h0, h1, h2, h3, h4, h5⟩ := h
  rintro ⟨k1, k2⟩
  rcases hb with hb | hb
  · have := k1 c J (h1 c hc).1 he
    omega
  · have hpos : L c J ≠ 0 := by have := he.2.2; omega
    obtain ⟨a, b, d⟩ := h3 _ hb hpos
    have hra : t_rch L (par (L c J)).1 := by
      rcases a with a | a
      · exact (h1 _ (h2 _ a)).1
      · rw [a.1]; exact (h1 c hc).1
    obtain ⟨e1, e2⟩ := k2 _ _ c J hra (h1 c hc).1 b he d
    rcases a with a | a
    · rw [e1] at a; exact hf a
    · have := a.2
      omega
theorem t_next (h : t_inv L n R F par c 3) (hc : R c) (c' : Nat) : t_inv L n R (fun k => F k ∨ k = c) par c' 0 := by
  obtain ⟨h0, h1, h2, h3, h4, h5⟩ := h
  refine ⟨h0, h1, fun k hk => ?_, fun k hk hk0 => ?_, fun a j ha hej => ?_, fun j hj => absurd hj (Nat.not_lt_zero _)⟩
  · rcases hk with hk | rfl
    · exact h2 k hk
    · exact hc
  · obtain ⟨a, b, d⟩ := h3 k hk hk0
    refine ⟨Or.inl ?_, b, d⟩
    rcases a with a | a
    · exact Or.inl a
    · exact Or.inr a.1
  · rcases ha with ha | rfl
    · exact h4 a j ha hej
    · exact h5 j hej.1 hej
theorem t_done (h : t_inv L n R F par c 0) (hf : ∀ k, R k → F k) : t_ok L n ∧ (∀ k, R k ↔ t_rch L k) ∧ (∀ k, R k → k < n) ∧ ∀ k, R k → k ≠ 0 → R (par k).1 ∧ t_edge L (par k).1 (par k).2 ∧ L (par k).1 (par k).2 = k := by
  obtain ⟨h0, h1, h2, h3, h4, h5⟩ := h
  have hall : ∀ k, t_rch L k → R k := fun k hk => hk R h0 (fun a j ha he => (h4 a j (hf a ha) he).1)
  refine ⟨⟨fun a j ha he => (h1 _ (h4 a j (hf a (hall a ha)) he).1).2, fun a j b i ha hb he hei hab => ?_⟩, fun k => ⟨fun hk => (h1 k hk).1, hall k⟩, fun k hk => (h1 k hk).2, fun k hk hk0 => ?_⟩
  · have q1 := (h4 a j (hf a (hall a ha)) he).2
    have q2 := (h4 b i (hf b (hall b hb)) hei).2
    rw [hab, q2] at q1
    cases q1
    exact ⟨rfl, rfl⟩
  · obtain ⟨a, b, d⟩ := h3 k hk hk0
    refine ⟨?_, b, d⟩
    rcases a with a | a
    · exact h2 _ a
    · exact absurd a.2 (Nat.not_lt_zero _)
/-- the link to an entry is one only -/
theorem t_par {par2 : Nat → Nat × Nat} {R2 : Nat → Prop} (h : t_ok L n) (h1 : ∀ k, R k ↔ t_rch L k) (h2 : ∀ k, R2 k ↔ t_rch L k) (h3 : ∀ k, R k → k ≠ 0 → R (par k).1 ∧ t_edge L (par k).1 (par k).2 ∧ L (par k).1 (par k).2 = k) (h4 : ∀ k, R2 k → k ≠ 0 → R2 (par2 k).1 ∧ t_edge L (par2 k).1 (par2 k).2 ∧ L (par2 k).1 (par2 k).2 = k) {k : Nat} (hk : t_rch L k) (hk0 : k ≠ 0) : par k = par2 k := by
  obtain ⟨a1, a2, a3⟩ := h3 k ((h1 k).mpr hk) hk0
  obtain ⟨b1, b2, b3⟩ := h4 k ((h2 k).mpr hk) hk0
  obtain ⟨e1, e2⟩ := h.2 _ _ _ _ ((h1 _).mp a1) ((h2 _).mp b1) a2 b2 (a3.trans b3.symm)
  exact Prod.ext e1 e2
end TR
